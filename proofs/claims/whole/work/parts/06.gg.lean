/-! the judgement of a place in a method: with these locals, this stack and this abstract heap the method ends with o (if o says something) -/
/-- class, code, number of locals, return type, table, a constructor or not -/
abbrev aM : Type := String × ByteArray × Nat × Option FieldType × List ExceptionTableEntry × Bool
/-- what stays in a method's body -/
def CX (l : Launch) (E : aE) (M : aM) (n0 : Nat) (p : Program) (s : State) (m : MethodId) (meth : Method) (c : Code) : Prop :=
  p.tables.exec = Jvm.exec ∧ c.code = M.2.1 ∧ meth.sig.returnType = M.2.2.2.1 ∧ meth.locks = false ∧ c.maxLocals = M.2.2.1 ∧ s.vm.findClass M.1 = some m.cls ∧ WD E s s.heap ∧ c.exceptionTable.toList = M.2.2.2.2.1 ∧ l.stackTraces = false ∧ s.heap.size = e_z E + n0 ∧ 0 < n0 ∧ (M.2.2.2.2.2 = true → meth.name = "<init>")
def isRet (ig : Instr) (ret : Option FieldType) (v : Option Value) : Prop :=
  (ig = .return_ ∧ ret = none ∧ v = none) ∨ (ig = .ireturn ∧ ∃ (x : Int32) (ty : FieldType), ret = some ty ∧ v = some (.int x) ∧ narrow ty (.int x) = .int x) ∨ (ig = .lreturn ∧ ret = some .long ∧ ∃ x : Int64, v = some (.long x)) ∨ (ig = .areturn ∧ ∃ (n : String) (a : Nat), ret = some (.object n) ∧ v = some (.ref a))
/-- what the end of a body needs: Q at its returns; a body that throws has the method's own Q -/
def EQ (l : Launch) (E : aE) (M : aM) (n0 m0 : Nat) (r : aR) (h' : aH) (p : Program) (e : Env) (R : Room) (s : State) (m : MethodId) (args : Array Value) (below : List Frame) (meth : Method) (c : Code) (Q : State → Prop) : Prop :=
  (∀ (pc : Nat) (ig : Instr) (v : Option Value) (H : Heap) (locs : List Loc) (cells slots : Nat) (ls : Array Slot), r = .inl v → isRet ig M.2.2.2.1 v → decode M.2.1 pc = .ok (ig, 1) → HR (e_z E) (e_D E) (e_cA E) h' H → va_S (aA (e_z E)) s.heap H locs → cells + n0 = h_nx h' → slots + m0 = h_sl h' →
    W p l e R s m args below meth c H locs cells slots Q (F0 m pc ls v.toList)) ∧
  (∀ X, r = .inr X → Q = vx_MQ below (rQ E r h') (rX E r h') args s (h_nx h' - n0) (h_sl h' - m0) (aA (e_z E)))
def GG {α : Type} (em : α → aR) (l : Launch) (E : aE) (M : aM) (d lr n0 m0 pc : Nat) (lv : List (Nat × Value)) (st : List Value) (h : aH) (o : Option (α × aH)) : Prop :=
  ∀ r h', o = some (r, h') → h_nx h ≤ h_nx h' ∧ h_sl h ≤ h_sl h' ∧
    ∀ (p : Program) (e : Env) (R : Room) (s : State) (m : MethodId) (args : Array Value) (below : List Frame) (meth : Method) (c : Code) (H : Heap) (locs : List Loc) (cells slots : Nat) (ls : Array Slot) (Q : State → Prop),
      CX l E M n0 p s m meth c → d ≤ R.frames → lr ≤ R.locals → h_nx h' ≤ R.cells + n0 → h_sl h' ≤ R.slots + m0 → cells + n0 = h_nx h → slots + m0 = h_sl h →
      HR (e_z E) (e_D E) (e_cA E) h H → va_S (aA (e_z E)) s.heap H locs → lv_has ls M.2.2.1 lv → EQ l E M n0 m0 (em r) h' p e R s m args below meth c Q →
      W p l e R s m args below meth c H locs cells slots Q (F0 m pc ls st)
section GGS
variable {α : Type} {em : α → aR} {l : Launch} {E : aE} {M : aM} {d lr n0 m0 pc pc' : Nat} {lv lv' : List (Nat × Value)} {st st' : List Value} {h : aH} {o : Option (α × aH)}
/-- an instruction that leaves heap and locals -/
theorem g_lift (k : GG em l E M d lr n0 m0 pc' lv st' h o)
    (f : ∀ (p : Program) (e : Env) (R : Room) (s : State) (m : MethodId) (args : Array Value) (below : List Frame) (meth : Method) (c : Code) (H : Heap) (locs : List Loc) (cells slots : Nat) (ls : Array Slot) (Q : State → Prop),
      CX l E M n0 p s m meth c → d ≤ R.frames → lr ≤ R.locals → cells ≤ R.cells → slots ≤ R.slots → HR (e_z E) (e_D E) (e_cA E) h H → va_S (aA (e_z E)) s.heap H locs → lv_has ls M.2.2.1 lv → W p l e R s m args below meth c H locs cells slots Q (F0 m pc' ls st') → W p l e R s m args below meth c H locs cells slots Q (F0 m pc ls st)) :
    GG em l E M d lr n0 m0 pc lv st h o := by
  intro r h' ho
  obtain ⟨a1, a2, a3⟩ := k r h' ho
  refine ⟨a1, a2, fun p e R s m args below meth c H locs cells slots ls Q hC hd hr hc hs h1 h2 hH hS hl hQ => ?_⟩
  exact f p e R s m args below meth c H locs cells slots ls Q hC hd hr (by omega) (by omega) hH hS hl (a3 p e R s m args below meth c H locs cells slots ls Q hC hd hr hc hs h1 h2 hH hS hl hQ)
/-- one that writes a local -/
theorem g_liftL (k : GG em l E M d lr n0 m0 pc' lv' st' h o)
    (f : ∀ (p : Program) (e : Env) (R : Room) (s : State) (m : MethodId) (args : Array Value) (below : List Frame) (meth : Method) (c : Code) (H : Heap) (locs : List Loc) (cells slots : Nat) (ls : Array Slot) (Q : State → Prop),
      CX l E M n0 p s m meth c → lv_has ls M.2.2.1 lv → (∀ ls', lv_has ls' M.2.2.1 lv' → W p l e R s m args below meth c H locs cells slots Q (F0 m pc' ls' st')) → W p l e R s m args below meth c H locs cells slots Q (F0 m pc ls st)) :
    GG em l E M d lr n0 m0 pc lv st h o := by
  intro r h' ho
  obtain ⟨a1, a2, a3⟩ := k r h' ho
  refine ⟨a1, a2, fun p e R s m args below meth c H locs cells slots ls Q hC hd hr hc hs h1 h2 hH hS hl hQ => ?_⟩
  exact f p e R s m args below meth c H locs cells slots ls Q hC hl (fun ls' hl' => a3 p e R s m args below meth c H locs cells slots ls' Q hC hd hr hc hs h1 h2 hH hS hl' hQ)
/-- fewer locals, in another order -/
theorem g_lv (ks : List Nat) (hl : lv_pick lv ks = lv') (k : GG em l E M d lr n0 m0 pc lv' st h o) : GG em l E M d lr n0 m0 pc lv st h o := by
  intro r h' ho
  obtain ⟨a1, a2, a3⟩ := k r h' ho
  exact ⟨a1, a2, fun p e R s m args below meth c H locs cells slots ls Q hC hd hr hc hs h1 h2 hH hS hv hQ => a3 p e R s m args below meth c H locs cells slots ls Q hC hd hr hc hs h1 h2 hH hS (lv_sub hv ks hl) hQ⟩
theorem g_none : GG em l E M d lr n0 m0 pc lv st h (none : Option (α × aH)) := fun _ _ ho => nomatch ho
theorem g_iconst {n : Int} {v : Int32} (hd : decode M.2.1 pc = .ok (.iconst n, 1)) (hv : Int32.ofInt n = v) (k : GG em l E M d lr n0 m0 (pc + 1) lv (.int v :: st) h o) : GG em l E M d lr n0 m0 pc lv st h o := g_lift k (fun _ _ _ _ _ _ _ _ _ _ _ _ _ _ _ hC _ _ _ _ _ _ _ w => lv_iconst hC.1 hC.2.1 hd hv w)
theorem g_bipush {n : Int} {v : Int32} (hd : decode M.2.1 pc = .ok (.bipush n, 2)) (hv : (Int8.ofInt n).toInt32 = v) (k : GG em l E M d lr n0 m0 (pc + 2) lv (.int v :: st) h o) : GG em l E M d lr n0 m0 pc lv st h o := g_lift k (fun _ _ _ _ _ _ _ _ _ _ _ _ _ _ _ hC _ _ _ _ _ _ _ w => lv_bipush hC.1 hC.2.1 hd hv w)
theorem g_sipush {n : Int} {v : Int32} (hd : decode M.2.1 pc = .ok (.sipush n, 3)) (hv : (Int16.ofInt n).toInt32 = v) (k : GG em l E M d lr n0 m0 (pc + 3) lv (.int v :: st) h o) : GG em l E M d lr n0 m0 pc lv st h o := g_lift k (fun _ _ _ _ _ _ _ _ _ _ _ _ _ _ _ hC _ _ _ _ _ _ _ w => lv_sipush hC.1 hC.2.1 hd hv w)
theorem g_lconst {n : Fin 2} {v : Int64} (hd : decode M.2.1 pc = .ok (.lconst n, 1)) (hv : Int64.ofNat (n : Nat) = v) (k : GG em l E M d lr n0 m0 (pc + 1) lv (.long v :: st) h o) : GG em l E M d lr n0 m0 pc lv st h o := g_lift k (fun _ _ _ _ _ _ _ _ _ _ _ _ _ _ _ hC _ _ _ _ _ _ _ w => lv_lconst hC.1 hC.2.1 hd hv w)
theorem g_iload_n {k9 : Fin 4} {x : Int32} (hd : decode M.2.1 pc = .ok (.iload_n k9, 1)) (q : Nat) (hq : lv[q]? = some ((k9 : Nat), .int x)) (k : GG em l E M d lr n0 m0 (pc + 1) lv (.int x :: st) h o) : GG em l E M d lr n0 m0 pc lv st h o := g_lift k (fun _ _ _ _ _ _ _ _ _ _ _ _ _ _ _ hC _ _ _ _ _ _ hl w => lv_iload_n hC.1 hC.2.1 hd rfl (lv_at hl q hq) w)
theorem g_iload {i : Nat} {x : Int32} (hd : decode M.2.1 pc = .ok (.iload i, 2)) (q : Nat) (hq : lv[q]? = some (i, .int x)) (k : GG em l E M d lr n0 m0 (pc + 2) lv (.int x :: st) h o) : GG em l E M d lr n0 m0 pc lv st h o := g_lift k (fun _ _ _ _ _ _ _ _ _ _ _ _ _ _ _ hC _ _ _ _ _ _ hl w => lv_iload hC.1 hC.2.1 hd (lv_at hl q hq) w)
theorem g_lload_n {k9 : Fin 4} {x : Int64} (hd : decode M.2.1 pc = .ok (.lload_n k9, 1)) (q : Nat) (hq : lv[q]? = some ((k9 : Nat), .long x)) (k : GG em l E M d lr n0 m0 (pc + 1) lv (.long x :: st) h o) : GG em l E M d lr n0 m0 pc lv st h o := g_lift k (fun _ _ _ _ _ _ _ _ _ _ _ _ _ _ _ hC _ _ _ _ _ _ hl w => lv_lload_n hC.1 hC.2.1 hd rfl (lv_at hl q hq) w)
theorem g_lload {i : Nat} {x : Int64} (hd : decode M.2.1 pc = .ok (.lload i, 2)) (q : Nat) (hq : lv[q]? = some (i, .long x)) (k : GG em l E M d lr n0 m0 (pc + 2) lv (.long x :: st) h o) : GG em l E M d lr n0 m0 pc lv st h o := g_lift k (fun _ _ _ _ _ _ _ _ _ _ _ _ _ _ _ hC _ _ _ _ _ _ hl w => lv_lload hC.1 hC.2.1 hd (lv_at hl q hq) w)
theorem g_aload_n {k9 : Fin 4} {x : Nat} (hd : decode M.2.1 pc = .ok (.aload_n k9, 1)) (q : Nat) (hq : lv[q]? = some ((k9 : Nat), .ref x)) (k : GG em l E M d lr n0 m0 (pc + 1) lv (.ref x :: st) h o) : GG em l E M d lr n0 m0 pc lv st h o := g_lift k (fun _ _ _ _ _ _ _ _ _ _ _ _ _ _ _ hC _ _ _ _ _ _ hl w => lv_aload_n hC.1 hC.2.1 hd rfl (lv_at hl q hq) w)
theorem g_aload {i : Nat} {x : Nat} (hd : decode M.2.1 pc = .ok (.aload i, 2)) (q : Nat) (hq : lv[q]? = some (i, .ref x)) (k : GG em l E M d lr n0 m0 (pc + 2) lv (.ref x :: st) h o) : GG em l E M d lr n0 m0 pc lv st h o := g_lift k (fun _ _ _ _ _ _ _ _ _ _ _ _ _ _ _ hC _ _ _ _ _ _ hl w => lv_aload hC.1 hC.2.1 hd (lv_at hl q hq) w)
/-- the locals behind a store -/
def lset (lv : List (Nat × Value)) (i : Nat) (v : Value) : List (Nat × Value) := (i, v) :: lv.filter (fun q => !(q.1 == i) && !(q.1 + 1 == i && q.2.category == 2))
def lset2 (lv : List (Nat × Value)) (i : Nat) (v : Value) : List (Nat × Value) := (i, v) :: lv.filter (fun q => !(q.1 == i) && (!(q.1 == i + 1) && !(q.1 + 1 == i && q.2.category == 2)))
theorem g_istore_n {k9 : Fin 4} {x : Int32} (hd : decode M.2.1 pc = .ok (.istore_n k9, 1)) (hn : (k9 : Nat) < M.2.2.1) (hl : lset lv (k9 : Nat) (.int x) = lv') (k : GG em l E M d lr n0 m0 (pc + 1) lv' st h o) : GG em l E M d lr n0 m0 pc lv (.int x :: st) h o := g_liftL k (fun _ _ _ _ _ _ _ _ _ _ _ _ _ _ _ hC hh w => lv_istore_n hC.1 hC.2.1 hd rfl hh hn hl w)
theorem g_istore {i : Nat} {x : Int32} (hd : decode M.2.1 pc = .ok (.istore i, 2)) (hn : i < M.2.2.1) (hl : lset lv i (.int x) = lv') (k : GG em l E M d lr n0 m0 (pc + 2) lv' st h o) : GG em l E M d lr n0 m0 pc lv (.int x :: st) h o := g_liftL k (fun _ _ _ _ _ _ _ _ _ _ _ _ _ _ _ hC hh w => lv_istore hC.1 hC.2.1 hd hh hn hl w)
theorem g_lstore_n {k9 : Fin 4} {x : Int64} (hd : decode M.2.1 pc = .ok (.lstore_n k9, 1)) (hn : (k9 : Nat) + 1 < M.2.2.1) (hl : lset2 lv (k9 : Nat) (.long x) = lv') (k : GG em l E M d lr n0 m0 (pc + 1) lv' st h o) : GG em l E M d lr n0 m0 pc lv (.long x :: st) h o := g_liftL k (fun _ _ _ _ _ _ _ _ _ _ _ _ _ _ _ hC hh w => lv_lstore_n hC.1 hC.2.1 hd rfl hh hn hl w)
theorem g_lstore {i : Nat} {x : Int64} (hd : decode M.2.1 pc = .ok (.lstore i, 2)) (hn : i + 1 < M.2.2.1) (hl : lset2 lv i (.long x) = lv') (k : GG em l E M d lr n0 m0 (pc + 2) lv' st h o) : GG em l E M d lr n0 m0 pc lv (.long x :: st) h o := g_liftL k (fun _ _ _ _ _ _ _ _ _ _ _ _ _ _ _ hC hh w => lv_lstore hC.1 hC.2.1 hd hh hn hl w)
theorem g_astore_n {k9 : Fin 4} {x : Nat} (hd : decode M.2.1 pc = .ok (.astore_n k9, 1)) (hn : (k9 : Nat) < M.2.2.1) (hl : lset lv (k9 : Nat) (.ref x) = lv') (k : GG em l E M d lr n0 m0 (pc + 1) lv' st h o) : GG em l E M d lr n0 m0 pc lv (.ref x :: st) h o := g_liftL k (fun _ _ _ _ _ _ _ _ _ _ _ _ _ _ _ hC hh w => lv_astore_n hC.1 hC.2.1 hd rfl hh hn hl w)
theorem g_astore {i : Nat} {x : Nat} (hd : decode M.2.1 pc = .ok (.astore i, 2)) (hn : i < M.2.2.1) (hl : lset lv i (.ref x) = lv') (k : GG em l E M d lr n0 m0 (pc + 2) lv' st h o) : GG em l E M d lr n0 m0 pc lv (.ref x :: st) h o := g_liftL k (fun _ _ _ _ _ _ _ _ _ _ _ _ _ _ _ hC hh w => lv_astore hC.1 hC.2.1 hd hh hn hl w)
theorem g_iinc {i : Nat} {n : Int} {x v : Int32} (hd : decode M.2.1 pc = .ok (.iinc i n, 3)) (q : Nat) (hq : lv[q]? = some (i, .int x)) (hv : Int32.ofInt n = v) (hn : i < M.2.2.1) (hl : lset lv i (.int (x + v)) = lv') (k : GG em l E M d lr n0 m0 (pc + 3) lv' st h o) : GG em l E M d lr n0 m0 pc lv st h o := g_liftL k (fun _ _ _ _ _ _ _ _ _ _ _ _ _ _ _ hC hh w => lv_iinc hC.1 hC.2.1 hd hh hq (by rw [hv]) hn hl w)
end GGS
