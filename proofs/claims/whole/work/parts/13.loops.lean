/-! loops by the number of their variables; rows for the printed proofs -/
def aL0 {γ : Type} (F : (aH → Option γ) → aH → Option γ) : Nat → aH → Option γ
  | 0, _ => none
  | n + 1, h => F (aL0 F n) h
def aL1 {σ1 γ : Type} (F : (σ1 → aH → Option γ) → σ1 → aH → Option γ) : Nat → σ1 → aH → Option γ
  | 0, _, _ => none
  | n + 1, s1, h => F (aL1 F n) s1 h
def aL2 {σ1 σ2 γ : Type} (F : (σ1 → σ2 → aH → Option γ) → σ1 → σ2 → aH → Option γ) : Nat → σ1 → σ2 → aH → Option γ
  | 0, _, _, _ => none
  | n + 1, s1, s2, h => F (aL2 F n) s1 s2 h
def aL3 {σ1 σ2 σ3 γ : Type} (F : (σ1 → σ2 → σ3 → aH → Option γ) → σ1 → σ2 → σ3 → aH → Option γ) : Nat → σ1 → σ2 → σ3 → aH → Option γ
  | 0, _, _, _, _ => none
  | n + 1, s1, s2, s3, h => F (aL3 F n) s1 s2 s3 h
def aL4 {σ1 σ2 σ3 σ4 γ : Type} (F : (σ1 → σ2 → σ3 → σ4 → aH → Option γ) → σ1 → σ2 → σ3 → σ4 → aH → Option γ) : Nat → σ1 → σ2 → σ3 → σ4 → aH → Option γ
  | 0, _, _, _, _, _ => none
  | n + 1, s1, s2, s3, s4, h => F (aL4 F n) s1 s2 s3 s4 h
section GGS8
variable {α β γ : Type} {em : α → aR} {l : Launch} {E : aE} {M : aM} {d lr n0 m0 pc : Nat} {lv lv' : List (Nat × Value)} {st stk : List Value} {h : aH} {o : Option (α × aH)}
theorem g_loop0 {F : (aH → Option (α × aH)) → aH → Option (α × aH)} (LV : List (Nat × Value)) (k : ∀ rec, (∀ h, GG em l E M d lr n0 m0 pc LV st h (rec h)) → ∀ h, GG em l E M d lr n0 m0 pc LV st h (F rec h)) : ∀ n h, GG em l E M d lr n0 m0 pc LV st h (aL0 F n h) := by
  intro n
  induction n with
  | zero => exact fun h => g_none
  | succ n ih => exact fun h => k _ ih h
theorem g_loop1 {σ1 : Type} {F : (σ1 → aH → Option (α × aH)) → σ1 → aH → Option (α × aH)} (LV : σ1 → List (Nat × Value)) (k : ∀ rec, (∀ s1 h, GG em l E M d lr n0 m0 pc (LV s1) st h (rec s1 h)) → ∀ s1 h, GG em l E M d lr n0 m0 pc (LV s1) st h (F rec s1 h)) : ∀ n s1 h, GG em l E M d lr n0 m0 pc (LV s1) st h (aL1 F n s1 h) := by
  intro n
  induction n with
  | zero => exact fun s1 h => g_none
  | succ n ih => exact fun s1 h => k _ ih s1 h
theorem g_loop2 {σ1 σ2 : Type} {F : (σ1 → σ2 → aH → Option (α × aH)) → σ1 → σ2 → aH → Option (α × aH)} (LV : σ1 → σ2 → List (Nat × Value)) (k : ∀ rec, (∀ s1 s2 h, GG em l E M d lr n0 m0 pc (LV s1 s2) st h (rec s1 s2 h)) → ∀ s1 s2 h, GG em l E M d lr n0 m0 pc (LV s1 s2) st h (F rec s1 s2 h)) : ∀ n s1 s2 h, GG em l E M d lr n0 m0 pc (LV s1 s2) st h (aL2 F n s1 s2 h) := by
  intro n
  induction n with
  | zero => exact fun s1 s2 h => g_none
  | succ n ih => exact fun s1 s2 h => k _ ih s1 s2 h
theorem g_loop3 {σ1 σ2 σ3 : Type} {F : (σ1 → σ2 → σ3 → aH → Option (α × aH)) → σ1 → σ2 → σ3 → aH → Option (α × aH)} (LV : σ1 → σ2 → σ3 → List (Nat × Value)) (k : ∀ rec, (∀ s1 s2 s3 h, GG em l E M d lr n0 m0 pc (LV s1 s2 s3) st h (rec s1 s2 s3 h)) → ∀ s1 s2 s3 h, GG em l E M d lr n0 m0 pc (LV s1 s2 s3) st h (F rec s1 s2 s3 h)) : ∀ n s1 s2 s3 h, GG em l E M d lr n0 m0 pc (LV s1 s2 s3) st h (aL3 F n s1 s2 s3 h) := by
  intro n
  induction n with
  | zero => exact fun s1 s2 s3 h => g_none
  | succ n ih => exact fun s1 s2 s3 h => k _ ih s1 s2 s3 h
theorem g_loop4 {σ1 σ2 σ3 σ4 : Type} {F : (σ1 → σ2 → σ3 → σ4 → aH → Option (α × aH)) → σ1 → σ2 → σ3 → σ4 → aH → Option (α × aH)} (LV : σ1 → σ2 → σ3 → σ4 → List (Nat × Value)) (k : ∀ rec, (∀ s1 s2 s3 s4 h, GG em l E M d lr n0 m0 pc (LV s1 s2 s3 s4) st h (rec s1 s2 s3 s4 h)) → ∀ s1 s2 s3 s4 h, GG em l E M d lr n0 m0 pc (LV s1 s2 s3 s4) st h (F rec s1 s2 s3 s4 h)) : ∀ n s1 s2 s3 s4 h, GG em l E M d lr n0 m0 pc (LV s1 s2 s3 s4) st h (aL4 F n s1 s2 s3 s4 h) := by
  intro n
  induction n with
  | zero => exact fun s1 s2 s3 s4 h => g_none
  | succ n ih => exact fun s1 s2 s3 s4 h => k _ ih s1 s2 s3 s4 h
theorem g_iincN {i : Nat} {n : Int} {x v : Int32} {f : Int32 → Option (α × aH)} (hd : decode M.2.1 pc = .ok (.iinc i n, 3)) (q : Nat) (hq : lv[q]? = some (i, .int x)) (hv : Int32.ofInt n = v) (hn : i < M.2.2.1) (k : ∀ y, GG em l E M d lr n0 m0 (pc + 3) (lset lv i (.int y)) st h (f y)) : GG em l E M d lr n0 m0 pc lv st h (aLet (x + v) f) := g_iinc hd q hq hv hn rfl (k _)
theorem g_lvr (hl : lv = lv') (k : GG em l E M d lr n0 m0 pc lv' st h o) : GG em l E M d lr n0 m0 pc lv st h o := by subst hl; exact k
theorem g_bRs {f : Nat → aH → Option (α × aH)} {x : Option (Nat × aH)} (hc : CC (fun v => .inl (some (.ref (e_sA E v)))) l E M d lr n0 pc lv stk st h x) (kk : ∀ v h1, GG em l E M d lr n0 m0 (pc + 3) lv (.ref (e_sA E v) :: st) h1 (f v h1)) : GG em l E M d lr n0 m0 pc lv stk h (bR x f) := g_bR (ev := fun v => some (.ref (e_sA E v))) (fun _ => rfl) hc kk
/-- strings -/
def gT {γ : Type} (i : Nat) (x : Option γ) : Option γ := if i < 11 then x else none
theorem g_gT {i : Nat} (k : i < 11 → GG em l E M d lr n0 m0 pc lv st h o) : GG em l E M d lr n0 m0 pc lv st h (gT i o) := by
  by_cases hs : i < 11
  · rw [gT, if_pos hs]; exact k hs
  · rw [gT, if_neg hs]; exact g_none
theorem c_Str {em1 : β → aR} {x : Option (β × aH)} {y : MethodName} {bytes : ByteArray} {maxL n i i9 d1 l1 : Nat} {ret : Option FieldType} {As : List Value} (hi : i9 < 11) (hMO : MO em1 l E y (.code y bytes maxL ret) d1 l1 (.ref (e_sA E i9) :: As) h x) (hy : yV "java/lang/String" y (.code y bytes maxL ret) n) (hl : Cond.methodLink M.1 i y ∈ lw_tbl)
    (hd : decode M.2.1 pc = .ok (.invokevirtual i, 3)) (hn : As.length = n) (hstk : stk = As.reverse ++ .ref (e_sA E i9) :: st) (hW : cats st ≤ 8) (hD : d1 + 1 ≤ d) (hL : 8 + (maxL + 11) + l1 ≤ lr) : CC em1 l E M d lr n0 pc lv stk st h x := by
  intro v h1 hx
  obtain ⟨c1, c2, hM⟩ := hMO v h1 hx
  refine ⟨c1, c2, fun p e R s m args below meth c9 H locs cells slots ls hC hd9 hr9 hc9 hs9 hH hS hl9 => ?_⟩
  have hW9 := hC.2.2.2.2.2.2.1
  obtain ⟨w1, w2, w3, w4, w5⟩ := hy
  have hO := ((hW9.2.2.2.2.2.2.1 i9 hi).2.1).kept hS.2.1
  exact vx_runV (cc := M.2.1) (nL := M.2.2.1) (Ts := []) (own := M.1) (C := "java/lang/String") (n := n) (bytes := bytes) (maxL := maxL) (ret := ret) (index := i) (As := As) (g := F0 m pc ls stk) ⟨hC.1, hC.2.1, hC.2.2.2.2.1, hC.2.2.2.2.2.1, fun w h => nomatch h⟩ hM
    ⟨⟨rfl, rfl, (by show d1 + 1 ≤ _; omega), (by show 8 + (maxL + 11) + l1 ≤ _; omega), (fun w hw a' U hm => by rw [List.mem_singleton.mp hw]; exact tb_move rfl hm (tb_use hW9.1 w1 rfl (A := a'))), List.mem_singleton.mpr rfl, tb_use hW9.1 w1 rfl, tb_use hW9.1 w2 rfl, ⟨w3.1, w3.2.1⟩, yH_len w3, tb_use hW9.1 hl rfl⟩, tb_use hW9.1 w4 rfl, tb_use hW9.1 w5 rfl⟩
    ⟨rP.blind, hO.elim fun cell hc => ⟨cell, hc.1, hc.2.1, hc.2.2.1⟩, fun U hU hm => rP_at hW9 hS hH hU hm⟩ rfl hn hl9.1 hstk (by show 2 * 0 + cats st ≤ 8; omega) hd ⟨hc9, hs9⟩
/-- throws -/
def xNS : List String := ["java/lang/RuntimeException", "java/lang/Exception"]
def xP (w : Cond) : Prop := w ∈ lw_tbl ∧ tb_ok w = true ∧ vx_ot w = true
theorem xw_of {own0 own cls : String} {ic0 ic : Nat} (hr : ∀ w ∈ vx_atS own0 ic0 cls xNS, xP w) (h1 : xP (.methodLink own ic (Bundle.initS cls))) : ∀ w ∈ vx_atS own ic cls xNS, xP w := by
  intro w hw
  obtain ⟨h2, h3⟩ := List.mem_filter.mp hw
  by_cases he : w = .methodLink own ic (Bundle.initS cls)
  · rw [he]; exact h1
  · refine hr w (List.mem_filter.mpr ⟨?_, h3⟩)
    unfold Bundle.ownAtoms at h2 ⊢
    rcases List.mem_append.mp h2 with h2 | h2
    · exact List.mem_append_left _ h2
    · rcases List.mem_cons.mp h2 with h2 | h2
      · exact absurd h2 he
      · exact List.mem_append_right _ (List.mem_cons_of_mem _ h2)
theorem g_throwE {em : γ → Option Value} {cls text : String} {ik is ic : Nat} (hM : M.2.2.2.2.1 = []) (hcls : Bundle.fit cls = true) (hnames : ∀ n ∈ xNS, Bundle.fit n = true) (hstr : (M.1, is, text) ∈ TXL) (h0 : xP (.classLink M.1 ik cls)) (h1 : xP (.initialized cls)) (h2 : ∀ w ∈ vx_atS M.1 ic cls xNS, xP w)
    (d0 : decode M.2.1 pc = .ok (.new ik, 3)) (d3 : decode M.2.1 (pc + 3) = .ok (.dup, 1)) (d4 : decode M.2.1 (pc + 4) = .ok (.ldc is, 2)) (d6 : decode M.2.1 (pc + 6) = .ok (.invokespecial ic, 3)) (d9 : decode M.2.1 (pc + 9) = .ok (.athrow, 1))
    (hf : xNS.length + 3 < d) (hl : cats st + (13 * (xNS.length + 1) + 43) ≤ lr) : GG (eT em) l E M d lr n0 m0 pc lv st h (some (.inr cls, h_exc h)) :=
  have hP : ∀ w ∈ Cond.classLink M.1 ik cls :: Cond.initialized cls :: vx_atS M.1 ic cls xNS, xP w := List.forall_mem_cons.mpr ⟨h0, List.forall_mem_cons.mpr ⟨h1, h2⟩⟩
  g_throw hM hcls hnames (fun w hw => ⟨(hP w hw).1, (hP w hw).2.1⟩) (fun w hw => (hP w hw).2.2) hstr d0 d3 d4 d6 d9 hf hl
theorem g_throwEW {em : γ → Option Value} {cls text : String} {ik is ic : Nat} (hM : M.2.2.2.2.1 = []) (hcls : Bundle.fit cls = true) (hnames : ∀ n ∈ xNS, Bundle.fit n = true) (hstr : (M.1, is, text) ∈ TXL) (h0 : xP (.classLink M.1 ik cls)) (h1 : xP (.initialized cls)) (h2 : ∀ w ∈ vx_atS M.1 ic cls xNS, xP w)
    (d0 : decode M.2.1 pc = .ok (.new ik, 3)) (d3 : decode M.2.1 (pc + 3) = .ok (.dup, 1)) (d4 : decode M.2.1 (pc + 4) = .ok (.ldc_w is, 3)) (d6 : decode M.2.1 (pc + 7) = .ok (.invokespecial ic, 3)) (d9 : decode M.2.1 (pc + 10) = .ok (.athrow, 1))
    (hf : xNS.length + 3 < d) (hl : cats st + (13 * (xNS.length + 1) + 43) ≤ lr) : GG (eT em) l E M d lr n0 m0 pc lv st h (some (.inr cls, h_exc h)) :=
  have hP : ∀ w ∈ Cond.classLink M.1 ik cls :: Cond.initialized cls :: vx_atS M.1 ic cls xNS, xP w := List.forall_mem_cons.mpr ⟨h0, List.forall_mem_cons.mpr ⟨h1, h2⟩⟩
  g_throwW hM hcls hnames (fun w hw => ⟨(hP w hw).1, (hP w hw).2.1⟩) (fun w hw => (hP w hw).2.2) hstr d0 d3 d4 d6 d9 hf hl
/-- .. of a class whose constructor links its super's at another place -/
theorem xx_of {own0 own cls Y9 : String} {r9 : List String} {ic0 ic ix : Nat} {rx : ByteArray} (hr : ∀ w ∈ (xoA own0 ic0 cls ix rx Y9 r9).filter vx_no, xP w) (h1 : xP (.methodLink own ic (Bundle.initS cls))) : ∀ w ∈ (xoA own ic cls ix rx Y9 r9).filter vx_no, xP w := by
  intro w hw
  obtain ⟨h2, h3⟩ := List.mem_filter.mp hw
  by_cases he : w = .methodLink own ic (Bundle.initS cls)
  · rw [he]; exact h1
  · refine hr w (List.mem_filter.mpr ⟨?_, h3⟩)
    unfold xoA at h2 ⊢
    rcases List.mem_append.mp h2 with h2 | h2
    · exact List.mem_append_left _ h2
    · rcases List.mem_cons.mp h2 with h2 | h2
      · exact absurd h2 he
      · exact List.mem_append_right _ (List.mem_cons_of_mem _ h2)
theorem g_throwX {em : γ → Option Value} {cls text Y9 : String} {r9 : List String} {ik is ic ix : Nat} {rx : ByteArray} (x0 : decode rx 0 = .ok (.aload_n 0, 1)) (x1 : decode rx 1 = .ok (.aload_n 1, 1)) (x2 : decode rx 2 = .ok (.invokespecial ix, 3)) (x5 : decode rx 5 = .ok (.return_, 1)) (hM : M.2.2.2.2.1 = []) (hcls : Bundle.fit cls = true) (hnames : ∀ n ∈ Y9 :: r9, Bundle.fit n = true) (hstr : (M.1, is, text) ∈ TXL) (h0 : xP (.classLink M.1 ik cls)) (h1 : xP (.initialized cls)) (h2 : ∀ w ∈ (xoA M.1 ic cls ix rx Y9 r9).filter vx_no, xP w)
    (d0 : decode M.2.1 pc = .ok (.new ik, 3)) (d3 : decode M.2.1 (pc + 3) = .ok (.dup, 1)) (d4 : decode M.2.1 (pc + 4) = .ok (.ldc is, 2)) (d6 : decode M.2.1 (pc + 6) = .ok (.invokespecial ic, 3)) (d9 : decode M.2.1 (pc + 9) = .ok (.athrow, 1))
    (hf : (Y9 :: r9).length + 3 < d) (hl : cats st + (13 * ((Y9 :: r9).length + 1) + 43) ≤ lr) : GG (eT em) l E M d lr n0 m0 pc lv st h (some (.inr cls, h_exc h)) := by
  have hP : ∀ w ∈ Cond.classLink M.1 ik cls :: Cond.initialized cls :: (xoA M.1 ic cls ix rx Y9 r9).filter vx_no, xP w := List.forall_mem_cons.mpr ⟨h0, List.forall_mem_cons.mpr ⟨h1, h2⟩⟩
  intro r h' ho
  cases ho
  have b1 : h_nx (h_exc h) = h_nx h + 1 := rfl
  have b2 : h_sl (h_exc h) = h_sl h + 6 := rfl
  refine ⟨by omega, by omega, fun p e R s m args below meth c H locs cells slots ls Q hC hd9 hr9 hc9 hs9 e1 e2 hH hS hl9 hQ => ?_⟩
  have hW := hC.2.2.2.2.2.2.1
  obtain ⟨sa, hsa⟩ := hW.2.2.2.2.2.1 _ hstr
  have hw : ∀ w ∈ Cond.classLink M.1 ik cls :: Cond.initialized cls :: (xoA M.1 ic cls ix rx Y9 r9).filter vx_no, w.before args s = true := fun w hm => tb_use hW.1 (hP w hm).1 (hP w hm).2.1
  have hQX := hQ.2 cls rfl
  subst hQX
  exact x_throwSX (A := aA (e_z E)) hC.1 hC.2.1 hC.2.2.2.2.2.2.2.2.1 x0 x1 x2 x5 hC.2.2.2.2.2.1 hcls hnames (hw _ List.mem_cons_self) (hw _ (List.mem_cons_of_mem _ List.mem_cons_self)) hsa (fun w hm => hw w (List.mem_cons_of_mem _ (List.mem_cons_of_mem _ hm))) (fun w hm => (hP w hm).2.2) hW.2.2.1 hW.2.2.2.1 hS (hl9.1.trans hC.2.2.2.2.1.symm) d0 d3 d4 d6 d9
    (fun x hx => by rw [hC.2.2.2.2.2.2.2.1, hM] at hx; cases hx) (by omega) (by show cats st + _ ≤ _; omega) (by omega) (by omega) hC.2.2.2.1
    (fun t _ hz hq => ⟨rfl, hH.exc hz hq, by have := hS.1; exact ⟨by omega, fun q q1 q2 => (hq q (by omega)).trans (hS.2.1 q q1 q2)⟩⟩) hS.2.2 (by omega) (by omega)
theorem g_throwXW {em : γ → Option Value} {cls text Y9 : String} {r9 : List String} {ik is ic ix : Nat} {rx : ByteArray} (x0 : decode rx 0 = .ok (.aload_n 0, 1)) (x1 : decode rx 1 = .ok (.aload_n 1, 1)) (x2 : decode rx 2 = .ok (.invokespecial ix, 3)) (x5 : decode rx 5 = .ok (.return_, 1)) (hM : M.2.2.2.2.1 = []) (hcls : Bundle.fit cls = true) (hnames : ∀ n ∈ Y9 :: r9, Bundle.fit n = true) (hstr : (M.1, is, text) ∈ TXL) (h0 : xP (.classLink M.1 ik cls)) (h1 : xP (.initialized cls)) (h2 : ∀ w ∈ (xoA M.1 ic cls ix rx Y9 r9).filter vx_no, xP w)
    (d0 : decode M.2.1 pc = .ok (.new ik, 3)) (d3 : decode M.2.1 (pc + 3) = .ok (.dup, 1)) (d4 : decode M.2.1 (pc + 4) = .ok (.ldc_w is, 3)) (d6 : decode M.2.1 (pc + 7) = .ok (.invokespecial ic, 3)) (d9 : decode M.2.1 (pc + 10) = .ok (.athrow, 1))
    (hf : (Y9 :: r9).length + 3 < d) (hl : cats st + (13 * ((Y9 :: r9).length + 1) + 43) ≤ lr) : GG (eT em) l E M d lr n0 m0 pc lv st h (some (.inr cls, h_exc h)) := by
  have hP : ∀ w ∈ Cond.classLink M.1 ik cls :: Cond.initialized cls :: (xoA M.1 ic cls ix rx Y9 r9).filter vx_no, xP w := List.forall_mem_cons.mpr ⟨h0, List.forall_mem_cons.mpr ⟨h1, h2⟩⟩
  intro r h' ho
  cases ho
  have b1 : h_nx (h_exc h) = h_nx h + 1 := rfl
  have b2 : h_sl (h_exc h) = h_sl h + 6 := rfl
  refine ⟨by omega, by omega, fun p e R s m args below meth c H locs cells slots ls Q hC hd9 hr9 hc9 hs9 e1 e2 hH hS hl9 hQ => ?_⟩
  have hW := hC.2.2.2.2.2.2.1
  obtain ⟨sa, hsa⟩ := hW.2.2.2.2.2.1 _ hstr
  have hw : ∀ w ∈ Cond.classLink M.1 ik cls :: Cond.initialized cls :: (xoA M.1 ic cls ix rx Y9 r9).filter vx_no, w.before args s = true := fun w hm => tb_use hW.1 (hP w hm).1 (hP w hm).2.1
  have hQX := hQ.2 cls rfl
  subst hQX
  exact x_throwSWX (A := aA (e_z E)) hC.1 hC.2.1 hC.2.2.2.2.2.2.2.2.1 x0 x1 x2 x5 hC.2.2.2.2.2.1 hcls hnames (hw _ List.mem_cons_self) (hw _ (List.mem_cons_of_mem _ List.mem_cons_self)) hsa (fun w hm => hw w (List.mem_cons_of_mem _ (List.mem_cons_of_mem _ hm))) (fun w hm => (hP w hm).2.2) hW.2.2.1 hW.2.2.2.1 hS (hl9.1.trans hC.2.2.2.2.1.symm) d0 d3 d4 d6 d9
    (fun x hx => by rw [hC.2.2.2.2.2.2.2.1, hM] at hx; cases hx) (by omega) (by show cats st + _ ≤ _; omega) (by omega) (by omega) hC.2.2.2.1
    (fun t _ hz hq => ⟨rfl, hH.exc hz hq, by have := hS.1; exact ⟨by omega, fun q q1 q2 => (hq q (by omega)).trans (hS.2.1 q q1 q2)⟩⟩) hS.2.2 (by omega) (by omega)
end GGS8
