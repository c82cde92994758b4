section GGS2
variable {α : Type} {em : α → aR} {l : Launch} {E : aE} {M : aM} {d lr n0 m0 pc tgt : Nat} {lv lv' : List (Nat × Value)} {st st' : List Value} {h : aH} {o o1 o2 : Option (α × aH)}
theorem g_iadd {x y : Int32} (hd : decode M.2.1 pc = .ok (.iadd, 1)) (k : GG em l E M d lr n0 m0 (pc + 1) lv (.int (x + y) :: st) h o) : GG em l E M d lr n0 m0 pc lv (.int y :: .int x :: st) h o := g_lift k (fun _ _ _ _ _ _ _ _ _ _ _ _ _ _ _ hC _ _ _ _ _ _ _ w => lv_iadd hC.1 hC.2.1 hd w)
theorem g_isub {x y : Int32} (hd : decode M.2.1 pc = .ok (.isub, 1)) (k : GG em l E M d lr n0 m0 (pc + 1) lv (.int (x - y) :: st) h o) : GG em l E M d lr n0 m0 pc lv (.int y :: .int x :: st) h o := g_lift k (fun _ _ _ _ _ _ _ _ _ _ _ _ _ _ _ hC _ _ _ _ _ _ _ w => lv_isub hC.1 hC.2.1 hd w)
theorem g_imul {x y : Int32} (hd : decode M.2.1 pc = .ok (.imul, 1)) (k : GG em l E M d lr n0 m0 (pc + 1) lv (.int (x * y) :: st) h o) : GG em l E M d lr n0 m0 pc lv (.int y :: .int x :: st) h o := g_lift k (fun _ _ _ _ _ _ _ _ _ _ _ _ _ _ _ hC _ _ _ _ _ _ _ w => lv_imul hC.1 hC.2.1 hd w)
theorem g_iand {x y : Int32} (hd : decode M.2.1 pc = .ok (.iand, 1)) (k : GG em l E M d lr n0 m0 (pc + 1) lv (.int (x &&& y) :: st) h o) : GG em l E M d lr n0 m0 pc lv (.int y :: .int x :: st) h o := g_lift k (fun _ _ _ _ _ _ _ _ _ _ _ _ _ _ _ hC _ _ _ _ _ _ _ w => lv_iand hC.1 hC.2.1 hd w)
theorem g_ior {x y : Int32} (hd : decode M.2.1 pc = .ok (.ior, 1)) (k : GG em l E M d lr n0 m0 (pc + 1) lv (.int (x ||| y) :: st) h o) : GG em l E M d lr n0 m0 pc lv (.int y :: .int x :: st) h o := g_lift k (fun _ _ _ _ _ _ _ _ _ _ _ _ _ _ _ hC _ _ _ _ _ _ _ w => lv_ior hC.1 hC.2.1 hd w)
theorem g_ixor {x y : Int32} (hd : decode M.2.1 pc = .ok (.ixor, 1)) (k : GG em l E M d lr n0 m0 (pc + 1) lv (.int (x ^^^ y) :: st) h o) : GG em l E M d lr n0 m0 pc lv (.int y :: .int x :: st) h o := g_lift k (fun _ _ _ _ _ _ _ _ _ _ _ _ _ _ _ hC _ _ _ _ _ _ _ w => lv_ixor hC.1 hC.2.1 hd w)
theorem g_ishl {x y : Int32} (hd : decode M.2.1 pc = .ok (.ishl, 1)) (k : GG em l E M d lr n0 m0 (pc + 1) lv (.int (x <<< (y &&& 31)) :: st) h o) : GG em l E M d lr n0 m0 pc lv (.int y :: .int x :: st) h o := g_lift k (fun _ _ _ _ _ _ _ _ _ _ _ _ _ _ _ hC _ _ _ _ _ _ _ w => lv_ishl hC.1 hC.2.1 hd w)
theorem g_ishr {x y : Int32} (hd : decode M.2.1 pc = .ok (.ishr, 1)) (k : GG em l E M d lr n0 m0 (pc + 1) lv (.int (x >>> (y &&& 31)) :: st) h o) : GG em l E M d lr n0 m0 pc lv (.int y :: .int x :: st) h o := g_lift k (fun _ _ _ _ _ _ _ _ _ _ _ _ _ _ _ hC _ _ _ _ _ _ _ w => lv_ishr hC.1 hC.2.1 hd w)
theorem g_ladd {x y : Int64} (hd : decode M.2.1 pc = .ok (.ladd, 1)) (k : GG em l E M d lr n0 m0 (pc + 1) lv (.long (x + y) :: st) h o) : GG em l E M d lr n0 m0 pc lv (.long y :: .long x :: st) h o := g_lift k (fun _ _ _ _ _ _ _ _ _ _ _ _ _ _ _ hC _ _ _ _ _ _ _ w => lv_ladd hC.1 hC.2.1 hd w)
theorem g_lsub {x y : Int64} (hd : decode M.2.1 pc = .ok (.lsub, 1)) (k : GG em l E M d lr n0 m0 (pc + 1) lv (.long (x - y) :: st) h o) : GG em l E M d lr n0 m0 pc lv (.long y :: .long x :: st) h o := g_lift k (fun _ _ _ _ _ _ _ _ _ _ _ _ _ _ _ hC _ _ _ _ _ _ _ w => lv_lsub hC.1 hC.2.1 hd w)
theorem g_lmul {x y : Int64} (hd : decode M.2.1 pc = .ok (.lmul, 1)) (k : GG em l E M d lr n0 m0 (pc + 1) lv (.long (x * y) :: st) h o) : GG em l E M d lr n0 m0 pc lv (.long y :: .long x :: st) h o := g_lift k (fun _ _ _ _ _ _ _ _ _ _ _ _ _ _ _ hC _ _ _ _ _ _ _ w => lv_lmul hC.1 hC.2.1 hd w)
theorem g_lor {x y : Int64} (hd : decode M.2.1 pc = .ok (.lor, 1)) (k : GG em l E M d lr n0 m0 (pc + 1) lv (.long (x ||| y) :: st) h o) : GG em l E M d lr n0 m0 pc lv (.long y :: .long x :: st) h o := g_lift k (fun _ _ _ _ _ _ _ _ _ _ _ _ _ _ _ hC _ _ _ _ _ _ _ w => lv_lor hC.1 hC.2.1 hd w)
theorem g_ineg {x : Int32} (hd : decode M.2.1 pc = .ok (.ineg, 1)) (k : GG em l E M d lr n0 m0 (pc + 1) lv (.int (-x) :: st) h o) : GG em l E M d lr n0 m0 pc lv (.int x :: st) h o := g_lift k (fun _ _ _ _ _ _ _ _ _ _ _ _ _ _ _ hC _ _ _ _ _ _ _ w => lv_ineg hC.1 hC.2.1 hd w)
theorem g_i2l {x : Int32} (hd : decode M.2.1 pc = .ok (.i2l, 1)) (k : GG em l E M d lr n0 m0 (pc + 1) lv (.long x.toInt64 :: st) h o) : GG em l E M d lr n0 m0 pc lv (.int x :: st) h o := g_lift k (fun _ _ _ _ _ _ _ _ _ _ _ _ _ _ _ hC _ _ _ _ _ _ _ w => lv_i2l hC.1 hC.2.1 hd rfl w)
theorem g_l2i {x : Int64} (hd : decode M.2.1 pc = .ok (.l2i, 1)) (k : GG em l E M d lr n0 m0 (pc + 1) lv (.int x.toInt32 :: st) h o) : GG em l E M d lr n0 m0 pc lv (.long x :: st) h o := g_lift k (fun _ _ _ _ _ _ _ _ _ _ _ _ _ _ _ hC _ _ _ _ _ _ _ w => lv_l2i hC.1 hC.2.1 hd rfl w)
theorem g_i2b {x : Int32} (hd : decode M.2.1 pc = .ok (.i2b, 1)) (k : GG em l E M d lr n0 m0 (pc + 1) lv (.int x.toInt8.toInt32 :: st) h o) : GG em l E M d lr n0 m0 pc lv (.int x :: st) h o := g_lift k (fun _ _ _ _ _ _ _ _ _ _ _ _ _ _ _ hC _ _ _ _ _ _ _ w => lv_i2b hC.1 hC.2.1 hd rfl w)
def iUshr (x y : Int32) : Int32 := (x.toUInt32 >>> (y.toUInt32 &&& Int32.toUInt32 31)).toInt32
def lShl (x : Int64) (y : Int32) : Int64 := x <<< (y.toInt64 &&& 63)
def iMax (x y : Int32) : Int32 := if x < y then y else x
def iMin (x y : Int32) : Int32 := if y < x then y else x
theorem g_iushr {x y : Int32} (hd : decode M.2.1 pc = .ok (.iushr, 1)) (k : GG em l E M d lr n0 m0 (pc + 1) lv (.int (iUshr x y) :: st) h o) : GG em l E M d lr n0 m0 pc lv (.int y :: .int x :: st) h o := g_lift k (fun _ _ _ _ _ _ _ _ _ _ _ _ _ _ _ hC _ _ _ _ _ _ _ w => lv_iushr hC.1 hC.2.1 hd rfl w)
theorem g_lshl {x : Int64} {y : Int32} (hd : decode M.2.1 pc = .ok (.lshl, 1)) (k : GG em l E M d lr n0 m0 (pc + 1) lv (.long (lShl x y) :: st) h o) : GG em l E M d lr n0 m0 pc lv (.int y :: .long x :: st) h o := g_lift k (fun _ _ _ _ _ _ _ _ _ _ _ _ _ _ _ hC _ _ _ _ _ _ _ w => lv_lshl hC.1 hC.2.1 hd rfl w)
theorem g_lcmp {x y : Int64} (hd : decode M.2.1 pc = .ok (.lcmp, 1)) (k : GG em l E M d lr n0 m0 (pc + 1) lv (.int (lg_cmp x y) :: st) h o) : GG em l E M d lr n0 m0 pc lv (.long y :: .long x :: st) h o := g_lift k (fun _ _ _ _ _ _ _ _ _ _ _ _ _ _ _ hC _ _ _ _ _ _ _ w => W.lcmp hC.1 hC.2.1 hd w)
theorem g_dup {va : Value} (h1 : va.category = 1) (hd : decode M.2.1 pc = .ok (.dup, 1)) (k : GG em l E M d lr n0 m0 (pc + 1) lv (va :: va :: st) h o) : GG em l E M d lr n0 m0 pc lv (va :: st) h o := g_lift k (fun _ _ _ _ _ _ _ _ _ _ _ _ _ _ _ hC _ _ _ _ _ _ _ w => lv_dup hC.1 hC.2.1 hd h1 w)
theorem g_pop {va : Value} (h1 : va.category = 1) (hd : decode M.2.1 pc = .ok (.pop, 1)) (k : GG em l E M d lr n0 m0 (pc + 1) lv (st) h o) : GG em l E M d lr n0 m0 pc lv (va :: st) h o := g_lift k (fun _ _ _ _ _ _ _ _ _ _ _ _ _ _ _ hC _ _ _ _ _ _ _ w => lv_pop hC.1 hC.2.1 hd h1 w)
theorem g_dup_x1 {va vb : Value} (h1 : va.category = 1) (h2 : vb.category = 1) (hd : decode M.2.1 pc = .ok (.dup_x1, 1)) (k : GG em l E M d lr n0 m0 (pc + 1) lv (va :: vb :: va :: st) h o) : GG em l E M d lr n0 m0 pc lv (va :: vb :: st) h o := g_lift k (fun _ _ _ _ _ _ _ _ _ _ _ _ _ _ _ hC _ _ _ _ _ _ _ w => lv_dup_x1 hC.1 hC.2.1 hd h1 h2 w)
theorem g_dup2 {va vb : Value} (h1 : va.category = 1) (h2 : vb.category = 1) (hd : decode M.2.1 pc = .ok (.dup2, 1)) (k : GG em l E M d lr n0 m0 (pc + 1) lv (va :: vb :: va :: vb :: st) h o) : GG em l E M d lr n0 m0 pc lv (va :: vb :: st) h o := g_lift k (fun _ _ _ _ _ _ _ _ _ _ _ _ _ _ _ hC _ _ _ _ _ _ _ w => lv_dup2_11 hC.1 hC.2.1 hd h1 h2 w)
theorem g_goto {off : Int} (hd : decode M.2.1 pc = .ok (.goto off, 3)) (ht : (pc : Int) + off = (tgt : Int)) (k : GG em l E M d lr n0 m0 tgt lv st h o) : GG em l E M d lr n0 m0 pc lv st h o := g_lift k (fun _ _ _ _ _ _ _ _ _ _ _ _ _ _ _ hC _ _ _ _ _ _ _ w => lv_goto hC.1 hC.2.1 hd ht w)
theorem g_ldc {i : Nat} {v : Int32} (hw : Cond.constant M.1 i v ∈ lw_tbl) (hd : decode M.2.1 pc = .ok (.ldc i, 2)) (k : GG em l E M d lr n0 m0 (pc + 2) lv (.int v :: st) h o) : GG em l E M d lr n0 m0 pc lv st h o := g_lift k (fun _ _ _ _ _ _ _ _ _ _ _ _ _ _ _ hC _ _ _ _ _ _ _ w => lv_ldc hC.1 hC.2.1 hC.2.2.2.2.2.1 (tb_use hC.2.2.2.2.2.2.1.1 hw rfl) hd w)
theorem g_ldc_w {i : Nat} {v : Int32} (hw : Cond.constant M.1 i v ∈ lw_tbl) (hd : decode M.2.1 pc = .ok (.ldc_w i, 3)) (k : GG em l E M d lr n0 m0 (pc + 3) lv (.int v :: st) h o) : GG em l E M d lr n0 m0 pc lv st h o := g_lift k (fun _ _ _ _ _ _ _ _ _ _ _ _ _ _ _ hC _ _ _ _ _ _ _ w => lv_ldcw hC.1 hC.2.1 hC.2.2.2.2.2.1 (tb_use hC.2.2.2.2.2.2.1.1 hw rfl) hd w)
theorem g_ldc2 {i : Nat} {v : Int64} (hw : Cond.constantLong M.1 i v ∈ lw_tbl) (hd : decode M.2.1 pc = .ok (.ldc2_w i, 3)) (k : GG em l E M d lr n0 m0 (pc + 3) lv (.long v :: st) h o) : GG em l E M d lr n0 m0 pc lv st h o := g_lift k (fun _ _ _ _ _ _ _ _ _ _ _ _ _ _ _ hC _ _ _ _ _ _ _ w => lv_ldc2 hC.1 hC.2.1 hC.2.2.2.2.2.1 (tb_use hC.2.2.2.2.2.2.1.1 hw rfl) hd w)
theorem g_ldcS {i : Nat} (hi : i < 11) (hM : M.1 = "BrigadePagers$Reader") (hd : decode M.2.1 pc = .ok (.ldc (RDL.getD i (0, "")).1, 2)) (k : GG em l E M d lr n0 m0 (pc + 2) lv (.ref (e_sA E i) :: st) h o) : GG em l E M d lr n0 m0 pc lv st h o := g_lift k (fun _ _ _ _ _ _ _ _ _ _ _ _ _ _ _ hC _ _ _ _ _ _ _ w => va_ldcS hC.1 hC.2.1 (by rw [← hM]; exact hC.2.2.2.2.2.1) (hC.2.2.2.2.2.2.1.2.2.2.2.2.2.1 i hi).1 hd w)
theorem g_ifeq {x : Int32} {off : Int} (hd : decode M.2.1 pc = .ok (.ifCond .eq off, 3)) (ht : (pc : Int) + off = (tgt : Int)) (k1 : GG em l E M d lr n0 m0 (tgt) lv st h o1) (k2 : GG em l E M d lr n0 m0 (pc + 3) lv st h o2) : GG em l E M d lr n0 m0 pc lv (.int x :: st) h (if x = 0 then o1 else o2) := by
  intro r h' ho
  by_cases hc9 : x = 0
  · rw [if_pos hc9] at ho
    obtain ⟨a1, a2, a3⟩ := k1 r h' ho
    refine ⟨a1, a2, fun p e R s m args below meth c H locs cells slots ls Q hC hd9 hr hc hs h1 h2 hH hS hl hQ => ?_⟩
    exact lv_if_eq hC.1 hC.2.1 hd ht (fun z => a3 p e R s m args below meth c H locs cells slots ls Q hC hd9 hr hc hs h1 h2 hH hS hl hQ) (fun z => absurd hc9 z)
  · rw [if_neg hc9] at ho
    obtain ⟨a1, a2, a3⟩ := k2 r h' ho
    refine ⟨a1, a2, fun p e R s m args below meth c H locs cells slots ls Q hC hd9 hr hc hs h1 h2 hH hS hl hQ => ?_⟩
    exact lv_if_eq hC.1 hC.2.1 hd ht (fun z => absurd z hc9) (fun z => a3 p e R s m args below meth c H locs cells slots ls Q hC hd9 hr hc hs h1 h2 hH hS hl hQ)
theorem g_ifne {x : Int32} {off : Int} (hd : decode M.2.1 pc = .ok (.ifCond .ne off, 3)) (ht : (pc : Int) + off = (tgt : Int)) (k1 : GG em l E M d lr n0 m0 (pc + 3) lv st h o1) (k2 : GG em l E M d lr n0 m0 (tgt) lv st h o2) : GG em l E M d lr n0 m0 pc lv (.int x :: st) h (if x = 0 then o1 else o2) := by
  intro r h' ho
  by_cases hc9 : x = 0
  · rw [if_pos hc9] at ho
    obtain ⟨a1, a2, a3⟩ := k1 r h' ho
    refine ⟨a1, a2, fun p e R s m args below meth c H locs cells slots ls Q hC hd9 hr hc hs h1 h2 hH hS hl hQ => ?_⟩
    exact lv_if_ne hC.1 hC.2.1 hd ht (fun z => absurd hc9 z) (fun z => a3 p e R s m args below meth c H locs cells slots ls Q hC hd9 hr hc hs h1 h2 hH hS hl hQ)
  · rw [if_neg hc9] at ho
    obtain ⟨a1, a2, a3⟩ := k2 r h' ho
    refine ⟨a1, a2, fun p e R s m args below meth c H locs cells slots ls Q hC hd9 hr hc hs h1 h2 hH hS hl hQ => ?_⟩
    exact lv_if_ne hC.1 hC.2.1 hd ht (fun z => a3 p e R s m args below meth c H locs cells slots ls Q hC hd9 hr hc hs h1 h2 hH hS hl hQ) (fun z => absurd z hc9)
theorem g_iflt {x : Int32} {off : Int} (hd : decode M.2.1 pc = .ok (.ifCond .lt off, 3)) (ht : (pc : Int) + off = (tgt : Int)) (k1 : GG em l E M d lr n0 m0 (tgt) lv st h o1) (k2 : GG em l E M d lr n0 m0 (pc + 3) lv st h o2) : GG em l E M d lr n0 m0 pc lv (.int x :: st) h (if x < 0 then o1 else o2) := by
  intro r h' ho
  by_cases hc9 : x < 0
  · rw [if_pos hc9] at ho
    obtain ⟨a1, a2, a3⟩ := k1 r h' ho
    refine ⟨a1, a2, fun p e R s m args below meth c H locs cells slots ls Q hC hd9 hr hc hs h1 h2 hH hS hl hQ => ?_⟩
    exact lv_if_lt hC.1 hC.2.1 hd ht (fun z => a3 p e R s m args below meth c H locs cells slots ls Q hC hd9 hr hc hs h1 h2 hH hS hl hQ) (fun z => absurd hc9 z)
  · rw [if_neg hc9] at ho
    obtain ⟨a1, a2, a3⟩ := k2 r h' ho
    refine ⟨a1, a2, fun p e R s m args below meth c H locs cells slots ls Q hC hd9 hr hc hs h1 h2 hH hS hl hQ => ?_⟩
    exact lv_if_lt hC.1 hC.2.1 hd ht (fun z => absurd z hc9) (fun z => a3 p e R s m args below meth c H locs cells slots ls Q hC hd9 hr hc hs h1 h2 hH hS hl hQ)
theorem g_ifge {x : Int32} {off : Int} (hd : decode M.2.1 pc = .ok (.ifCond .ge off, 3)) (ht : (pc : Int) + off = (tgt : Int)) (k1 : GG em l E M d lr n0 m0 (pc + 3) lv st h o1) (k2 : GG em l E M d lr n0 m0 (tgt) lv st h o2) : GG em l E M d lr n0 m0 pc lv (.int x :: st) h (if x < 0 then o1 else o2) := by
  intro r h' ho
  by_cases hc9 : x < 0
  · rw [if_pos hc9] at ho
    obtain ⟨a1, a2, a3⟩ := k1 r h' ho
    refine ⟨a1, a2, fun p e R s m args below meth c H locs cells slots ls Q hC hd9 hr hc hs h1 h2 hH hS hl hQ => ?_⟩
    exact lv_if_ge hC.1 hC.2.1 hd ht (fun z => absurd hc9 (Int32.not_lt.mpr z)) (fun z => a3 p e R s m args below meth c H locs cells slots ls Q hC hd9 hr hc hs h1 h2 hH hS hl hQ)
  · rw [if_neg hc9] at ho
    obtain ⟨a1, a2, a3⟩ := k2 r h' ho
    refine ⟨a1, a2, fun p e R s m args below meth c H locs cells slots ls Q hC hd9 hr hc hs h1 h2 hH hS hl hQ => ?_⟩
    exact lv_if_ge hC.1 hC.2.1 hd ht (fun z => a3 p e R s m args below meth c H locs cells slots ls Q hC hd9 hr hc hs h1 h2 hH hS hl hQ) (fun z => absurd (Int32.not_lt.mp hc9) z)
theorem g_ifgt {x : Int32} {off : Int} (hd : decode M.2.1 pc = .ok (.ifCond .gt off, 3)) (ht : (pc : Int) + off = (tgt : Int)) (k1 : GG em l E M d lr n0 m0 (pc + 3) lv st h o1) (k2 : GG em l E M d lr n0 m0 (tgt) lv st h o2) : GG em l E M d lr n0 m0 pc lv (.int x :: st) h (if x ≤ 0 then o1 else o2) := by
  intro r h' ho
  by_cases hc9 : x ≤ 0
  · rw [if_pos hc9] at ho
    obtain ⟨a1, a2, a3⟩ := k1 r h' ho
    refine ⟨a1, a2, fun p e R s m args below meth c H locs cells slots ls Q hC hd9 hr hc hs h1 h2 hH hS hl hQ => ?_⟩
    exact lv_if_gt hC.1 hC.2.1 hd ht (fun z => absurd hc9 (Int32.not_le.mpr z)) (fun z => a3 p e R s m args below meth c H locs cells slots ls Q hC hd9 hr hc hs h1 h2 hH hS hl hQ)
  · rw [if_neg hc9] at ho
    obtain ⟨a1, a2, a3⟩ := k2 r h' ho
    refine ⟨a1, a2, fun p e R s m args below meth c H locs cells slots ls Q hC hd9 hr hc hs h1 h2 hH hS hl hQ => ?_⟩
    exact lv_if_gt hC.1 hC.2.1 hd ht (fun z => a3 p e R s m args below meth c H locs cells slots ls Q hC hd9 hr hc hs h1 h2 hH hS hl hQ) (fun z => absurd (Int32.not_le.mp hc9) z)
theorem g_ifle {x : Int32} {off : Int} (hd : decode M.2.1 pc = .ok (.ifCond .le off, 3)) (ht : (pc : Int) + off = (tgt : Int)) (k1 : GG em l E M d lr n0 m0 (tgt) lv st h o1) (k2 : GG em l E M d lr n0 m0 (pc + 3) lv st h o2) : GG em l E M d lr n0 m0 pc lv (.int x :: st) h (if x ≤ 0 then o1 else o2) := by
  intro r h' ho
  by_cases hc9 : x ≤ 0
  · rw [if_pos hc9] at ho
    obtain ⟨a1, a2, a3⟩ := k1 r h' ho
    refine ⟨a1, a2, fun p e R s m args below meth c H locs cells slots ls Q hC hd9 hr hc hs h1 h2 hH hS hl hQ => ?_⟩
    exact lv_if_le hC.1 hC.2.1 hd ht (fun z => a3 p e R s m args below meth c H locs cells slots ls Q hC hd9 hr hc hs h1 h2 hH hS hl hQ) (fun z => absurd hc9 z)
  · rw [if_neg hc9] at ho
    obtain ⟨a1, a2, a3⟩ := k2 r h' ho
    refine ⟨a1, a2, fun p e R s m args below meth c H locs cells slots ls Q hC hd9 hr hc hs h1 h2 hH hS hl hQ => ?_⟩
    exact lv_if_le hC.1 hC.2.1 hd ht (fun z => absurd z hc9) (fun z => a3 p e R s m args below meth c H locs cells slots ls Q hC hd9 hr hc hs h1 h2 hH hS hl hQ)
theorem g_icmpeq {x y : Int32} {off : Int} (hd : decode M.2.1 pc = .ok (.if_icmp .eq off, 3)) (ht : (pc : Int) + off = (tgt : Int)) (k1 : GG em l E M d lr n0 m0 (tgt) lv st h o1) (k2 : GG em l E M d lr n0 m0 (pc + 3) lv st h o2) : GG em l E M d lr n0 m0 pc lv (.int y :: .int x :: st) h (if x = y then o1 else o2) := by
  intro r h' ho
  by_cases hc9 : x = y
  · rw [if_pos hc9] at ho
    obtain ⟨a1, a2, a3⟩ := k1 r h' ho
    refine ⟨a1, a2, fun p e R s m args below meth c H locs cells slots ls Q hC hd9 hr hc hs h1 h2 hH hS hl hQ => ?_⟩
    exact lv_icmp_eq hC.1 hC.2.1 hd ht (fun z => a3 p e R s m args below meth c H locs cells slots ls Q hC hd9 hr hc hs h1 h2 hH hS hl hQ) (fun z => absurd hc9 z)
  · rw [if_neg hc9] at ho
    obtain ⟨a1, a2, a3⟩ := k2 r h' ho
    refine ⟨a1, a2, fun p e R s m args below meth c H locs cells slots ls Q hC hd9 hr hc hs h1 h2 hH hS hl hQ => ?_⟩
    exact lv_icmp_eq hC.1 hC.2.1 hd ht (fun z => absurd z hc9) (fun z => a3 p e R s m args below meth c H locs cells slots ls Q hC hd9 hr hc hs h1 h2 hH hS hl hQ)
theorem g_icmpne {x y : Int32} {off : Int} (hd : decode M.2.1 pc = .ok (.if_icmp .ne off, 3)) (ht : (pc : Int) + off = (tgt : Int)) (k1 : GG em l E M d lr n0 m0 (pc + 3) lv st h o1) (k2 : GG em l E M d lr n0 m0 (tgt) lv st h o2) : GG em l E M d lr n0 m0 pc lv (.int y :: .int x :: st) h (if x = y then o1 else o2) := by
  intro r h' ho
  by_cases hc9 : x = y
  · rw [if_pos hc9] at ho
    obtain ⟨a1, a2, a3⟩ := k1 r h' ho
    refine ⟨a1, a2, fun p e R s m args below meth c H locs cells slots ls Q hC hd9 hr hc hs h1 h2 hH hS hl hQ => ?_⟩
    exact lv_icmp_ne hC.1 hC.2.1 hd ht (fun z => absurd hc9 z) (fun z => a3 p e R s m args below meth c H locs cells slots ls Q hC hd9 hr hc hs h1 h2 hH hS hl hQ)
  · rw [if_neg hc9] at ho
    obtain ⟨a1, a2, a3⟩ := k2 r h' ho
    refine ⟨a1, a2, fun p e R s m args below meth c H locs cells slots ls Q hC hd9 hr hc hs h1 h2 hH hS hl hQ => ?_⟩
    exact lv_icmp_ne hC.1 hC.2.1 hd ht (fun z => a3 p e R s m args below meth c H locs cells slots ls Q hC hd9 hr hc hs h1 h2 hH hS hl hQ) (fun z => absurd z hc9)
theorem g_icmplt {x y : Int32} {off : Int} (hd : decode M.2.1 pc = .ok (.if_icmp .lt off, 3)) (ht : (pc : Int) + off = (tgt : Int)) (k1 : GG em l E M d lr n0 m0 (tgt) lv st h o1) (k2 : GG em l E M d lr n0 m0 (pc + 3) lv st h o2) : GG em l E M d lr n0 m0 pc lv (.int y :: .int x :: st) h (if x < y then o1 else o2) := by
  intro r h' ho
  by_cases hc9 : x < y
  · rw [if_pos hc9] at ho
    obtain ⟨a1, a2, a3⟩ := k1 r h' ho
    refine ⟨a1, a2, fun p e R s m args below meth c H locs cells slots ls Q hC hd9 hr hc hs h1 h2 hH hS hl hQ => ?_⟩
    exact lv_icmp_lt hC.1 hC.2.1 hd ht (fun z => a3 p e R s m args below meth c H locs cells slots ls Q hC hd9 hr hc hs h1 h2 hH hS hl hQ) (fun z => absurd hc9 z)
  · rw [if_neg hc9] at ho
    obtain ⟨a1, a2, a3⟩ := k2 r h' ho
    refine ⟨a1, a2, fun p e R s m args below meth c H locs cells slots ls Q hC hd9 hr hc hs h1 h2 hH hS hl hQ => ?_⟩
    exact lv_icmp_lt hC.1 hC.2.1 hd ht (fun z => absurd z hc9) (fun z => a3 p e R s m args below meth c H locs cells slots ls Q hC hd9 hr hc hs h1 h2 hH hS hl hQ)
theorem g_icmpge {x y : Int32} {off : Int} (hd : decode M.2.1 pc = .ok (.if_icmp .ge off, 3)) (ht : (pc : Int) + off = (tgt : Int)) (k1 : GG em l E M d lr n0 m0 (pc + 3) lv st h o1) (k2 : GG em l E M d lr n0 m0 (tgt) lv st h o2) : GG em l E M d lr n0 m0 pc lv (.int y :: .int x :: st) h (if x < y then o1 else o2) := by
  intro r h' ho
  by_cases hc9 : x < y
  · rw [if_pos hc9] at ho
    obtain ⟨a1, a2, a3⟩ := k1 r h' ho
    refine ⟨a1, a2, fun p e R s m args below meth c H locs cells slots ls Q hC hd9 hr hc hs h1 h2 hH hS hl hQ => ?_⟩
    exact lv_icmp_ge hC.1 hC.2.1 hd ht (fun z => absurd hc9 (Int32.not_lt.mpr z)) (fun z => a3 p e R s m args below meth c H locs cells slots ls Q hC hd9 hr hc hs h1 h2 hH hS hl hQ)
  · rw [if_neg hc9] at ho
    obtain ⟨a1, a2, a3⟩ := k2 r h' ho
    refine ⟨a1, a2, fun p e R s m args below meth c H locs cells slots ls Q hC hd9 hr hc hs h1 h2 hH hS hl hQ => ?_⟩
    exact lv_icmp_ge hC.1 hC.2.1 hd ht (fun z => a3 p e R s m args below meth c H locs cells slots ls Q hC hd9 hr hc hs h1 h2 hH hS hl hQ) (fun z => absurd (Int32.not_lt.mp hc9) z)
theorem g_icmpgt {x y : Int32} {off : Int} (hd : decode M.2.1 pc = .ok (.if_icmp .gt off, 3)) (ht : (pc : Int) + off = (tgt : Int)) (k1 : GG em l E M d lr n0 m0 (pc + 3) lv st h o1) (k2 : GG em l E M d lr n0 m0 (tgt) lv st h o2) : GG em l E M d lr n0 m0 pc lv (.int y :: .int x :: st) h (if x ≤ y then o1 else o2) := by
  intro r h' ho
  by_cases hc9 : x ≤ y
  · rw [if_pos hc9] at ho
    obtain ⟨a1, a2, a3⟩ := k1 r h' ho
    refine ⟨a1, a2, fun p e R s m args below meth c H locs cells slots ls Q hC hd9 hr hc hs h1 h2 hH hS hl hQ => ?_⟩
    exact lv_icmp_gt hC.1 hC.2.1 hd ht (fun z => absurd hc9 (Int32.not_le.mpr z)) (fun z => a3 p e R s m args below meth c H locs cells slots ls Q hC hd9 hr hc hs h1 h2 hH hS hl hQ)
  · rw [if_neg hc9] at ho
    obtain ⟨a1, a2, a3⟩ := k2 r h' ho
    refine ⟨a1, a2, fun p e R s m args below meth c H locs cells slots ls Q hC hd9 hr hc hs h1 h2 hH hS hl hQ => ?_⟩
    exact lv_icmp_gt hC.1 hC.2.1 hd ht (fun z => a3 p e R s m args below meth c H locs cells slots ls Q hC hd9 hr hc hs h1 h2 hH hS hl hQ) (fun z => absurd (Int32.not_le.mp hc9) z)
theorem g_icmple {x y : Int32} {off : Int} (hd : decode M.2.1 pc = .ok (.if_icmp .le off, 3)) (ht : (pc : Int) + off = (tgt : Int)) (k1 : GG em l E M d lr n0 m0 (tgt) lv st h o1) (k2 : GG em l E M d lr n0 m0 (pc + 3) lv st h o2) : GG em l E M d lr n0 m0 pc lv (.int y :: .int x :: st) h (if x ≤ y then o1 else o2) := by
  intro r h' ho
  by_cases hc9 : x ≤ y
  · rw [if_pos hc9] at ho
    obtain ⟨a1, a2, a3⟩ := k1 r h' ho
    refine ⟨a1, a2, fun p e R s m args below meth c H locs cells slots ls Q hC hd9 hr hc hs h1 h2 hH hS hl hQ => ?_⟩
    exact lv_icmp_le hC.1 hC.2.1 hd ht (fun z => a3 p e R s m args below meth c H locs cells slots ls Q hC hd9 hr hc hs h1 h2 hH hS hl hQ) (fun z => absurd hc9 z)
  · rw [if_neg hc9] at ho
    obtain ⟨a1, a2, a3⟩ := k2 r h' ho
    refine ⟨a1, a2, fun p e R s m args below meth c H locs cells slots ls Q hC hd9 hr hc hs h1 h2 hH hS hl hQ => ?_⟩
    exact lv_icmp_le hC.1 hC.2.1 hd ht (fun z => absurd z hc9) (fun z => a3 p e R s m args below meth c H locs cells slots ls Q hC hd9 hr hc hs h1 h2 hH hS hl hQ)
end GGS2
