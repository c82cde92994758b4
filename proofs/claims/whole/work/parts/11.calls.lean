/-! calls -/
section GGS6
variable {α β γ : Type} {em : α → aR} {em1 : β → aR} {ev : β → Option Value} {l : Launch} {E : aE} {M : aM} {d lr n0 m0 pc : Nat} {lv : List (Nat × Value)} {st stk : List Value} {h : aH} {o : Option (α × aH)} {x : Option (β × aH)}
/-- a call's run: what it hands back and leaves -/
def RN (l : Launch) (E : aE) (M : aM) (d lr n0 pc : Nat) (lv : List (Nat × Value)) (stk st : List Value) (h : aH) (r1 : aR) (h1 : aH) : Prop :=
  ∀ (p : Program) (e : Env) (R : Room) (s : State) (m : MethodId) (args : Array Value) (below : List Frame) (meth : Method) (c : Code) (H : Heap) (locs : List Loc) (cells slots : Nat) (ls : Array Slot),
    CX l E M n0 p s m meth c → d ≤ R.frames → lr ≤ R.locals → cells + (h_nx h1 - h_nx h) ≤ R.cells → slots + (h_sl h1 - h_sl h) ≤ R.slots → HR (e_z E) (e_D E) (e_cA E) h H → va_S (aA (e_z E)) s.heap H locs → lv_has ls M.2.2.1 lv →
    vx_Run p l e R s m args below meth c H locs cells slots (h_nx h1 - h_nx h) (h_sl h1 - h_sl h) (F0 m pc ls stk) st (rQ E r1 h1 #[]) (rX E r1 h1) (aA (e_z E))
def CC (em1 : β → aR) (l : Launch) (E : aE) (M : aM) (d lr n0 pc : Nat) (lv : List (Nat × Value)) (stk st : List Value) (h : aH) (x : Option (β × aH)) : Prop := ∀ v h1, x = some (v, h1) → h_nx h ≤ h_nx h1 ∧ h_sl h ≤ h_sl h1 ∧ RN l E M d lr n0 pc lv stk st h (em1 v) h1
/-- the call of a method that doesn't throw -/
theorem g_bR {f : β → aH → Option (α × aH)} (hem : ∀ v, em1 v = .inl (ev v)) (hc : CC em1 l E M d lr n0 pc lv stk st h x) (kk : ∀ v h1, GG em l E M d lr n0 m0 (pc + 3) lv ((ev v).toList ++ st) h1 (f v h1)) : GG em l E M d lr n0 m0 pc lv stk h (bR x f) := by
  intro r h' ho
  cases x with
  | none => cases ho
  | some q =>
    obtain ⟨v, h1⟩ := q
    replace ho : f v h1 = some (r, h') := ho
    obtain ⟨c1, c2, run⟩ := hc v h1 rfl
    obtain ⟨a1, a2, a3⟩ := kk v h1 r h' ho
    refine ⟨Nat.le_trans c1 a1, Nat.le_trans c2 a2, fun p e R s m args below meth c H locs cells slots ls Q hC hd9 hr9 hc9 hs9 e1 e2 hH hS hl hQ => ?_⟩
    intro T hT X
    rcases run p e R s m args below meth c H locs cells slots ls hC hd9 hr9 (by omega) (by omega) hH hS hl T hT X with ⟨v9, st0, t, T', L, q1, X', hL, q2, q3, ⟨⟨v8, z1, z2⟩, z3, z4⟩, go⟩ | ⟨q, st0, t, T', L, E9, ce, q1, X', hL, q2, q3, ⟨z1, z3, z4⟩, -⟩
    · rw [hem] at z1
      cases z1
      cases z2
      obtain ⟨-, -, k3⟩ := vx_keep (A0 := aA (e_z E)) q1 q2 hS (fun q _ hq => hq) (fun q hq => hq) hL z4
      obtain ⟨t2, s1, s2⟩ := a3 p e R s m args below meth c t.heap (locs ++ L) _ _ ls Q hC hd9 hr9 hc9 hs9 (by omega) (by omega) z3 (by rw [← q2]; exact k3) hl hQ T' q2 X'
      exact ⟨t2, go t2 s1, s2⟩
    · rw [hem] at z1
      cases z1
theorem g_bRv {f : Unit → aH → Option (α × aH)} {x : Option (Unit × aH)} (hc : CC (fun _ => .inl none) l E M d lr n0 pc lv stk st h x) (kk : ∀ v h1, GG em l E M d lr n0 m0 (pc + 3) lv st h1 (f v h1)) : GG em l E M d lr n0 m0 pc lv stk h (bR x f) := g_bR (ev := fun _ => none) (fun _ => rfl) hc kk
theorem g_bRi {f : Int32 → aH → Option (α × aH)} {x : Option (Int32 × aH)} (hc : CC (fun v => .inl (some (.int v))) l E M d lr n0 pc lv stk st h x) (kk : ∀ v h1, GG em l E M d lr n0 m0 (pc + 3) lv (.int v :: st) h1 (f v h1)) : GG em l E M d lr n0 m0 pc lv stk h (bR x f) := g_bR (ev := fun v => some (.int v)) (fun _ => rfl) hc kk
theorem g_bRl {f : Int64 → aH → Option (α × aH)} {x : Option (Int64 × aH)} (hc : CC (fun v => .inl (some (.long v))) l E M d lr n0 pc lv stk st h x) (kk : ∀ v h1, GG em l E M d lr n0 m0 (pc + 3) lv (.long v :: st) h1 (f v h1)) : GG em l E M d lr n0 m0 pc lv stk h (bR x f) := g_bR (ev := fun v => some (.long v)) (fun _ => rfl) hc kk
theorem g_bRr {f : Nat → aH → Option (α × aH)} {x : Option (Nat × aH)} (hc : CC (fun v => .inl (some (.ref (e_z E + v)))) l E M d lr n0 pc lv stk st h x) (kk : ∀ v h1, GG em l E M d lr n0 m0 (pc + 3) lv (.ref (e_z E + v) :: st) h1 (f v h1)) : GG em l E M d lr n0 m0 pc lv stk h (bR x f) := g_bR (ev := fun v => some (.ref (e_z E + v))) (fun _ => rfl) hc kk
/-- results of methods that may throw -/
def eT {β : Type} (f : β → Option Value) : β ⊕ String → aR := fun q => match q with | .inl v => .inl (f v) | .inr X => .inr X
/-- the call of a method that may throw; what it throws goes on to our caller -/
theorem g_bX {em : γ → Option Value} {x : Option ((β ⊕ String) × aH)} {f : β → aH → Option ((γ ⊕ String) × aH)} (hM : M.2.2.2.2.1 = []) (hc : CC (eT ev) l E M d lr n0 pc lv stk st h x) (kk : ∀ v h1, GG (eT em) l E M d lr n0 m0 (pc + 3) lv ((ev v).toList ++ st) h1 (f v h1)) : GG (eT em) l E M d lr n0 m0 pc lv stk h (bX x f) := by
  intro r h' ho
  cases x with
  | none => cases ho
  | some q =>
    obtain ⟨v, h1⟩ := q
    obtain ⟨c1, c2, run⟩ := hc v h1 rfl
    cases v with
    | inl v =>
      replace ho : f v h1 = some (r, h') := ho
      obtain ⟨a1, a2, a3⟩ := kk v h1 r h' ho
      refine ⟨Nat.le_trans c1 a1, Nat.le_trans c2 a2, fun p e R s m args below meth c H locs cells slots ls Q hC hd9 hr9 hc9 hs9 e1 e2 hH hS hl hQ => ?_⟩
      intro T hT X
      rcases run p e R s m args below meth c H locs cells slots ls hC hd9 hr9 (by omega) (by omega) hH hS hl T hT X with ⟨v9, st0, t, T', L, q1, X', hL, q2, q3, ⟨⟨v8, z1, z2⟩, z3, z4⟩, go⟩ | ⟨q, st0, t, T', L, E9, ce, q1, X', hL, q2, q3, ⟨z1, z3, z4⟩, -⟩
      · cases z1
        cases z2
        obtain ⟨-, -, k3⟩ := vx_keep (A0 := aA (e_z E)) q1 q2 hS (fun q _ hq => hq) (fun q hq => hq) hL z4
        obtain ⟨t2, s1, s2⟩ := a3 p e R s m args below meth c t.heap (locs ++ L) _ _ ls Q hC hd9 hr9 hc9 hs9 (by omega) (by omega) z3 (by rw [← q2]; exact k3) hl hQ T' q2 X'
        exact ⟨t2, go t2 s1, s2⟩
      · cases z1
    | inr Y =>
      replace ho : some ((Sum.inr Y : γ ⊕ String), h1) = some (r, h') := ho
      cases ho
      refine ⟨c1, c2, fun p e R s m args below meth c H locs cells slots ls Q hC hd9 hr9 hc9 hs9 e1 e2 hH hS hl hQ => ?_⟩
      intro T hT X
      rcases run p e R s m args below meth c H locs cells slots ls hC hd9 hr9 (by omega) (by omega) hH hS hl T hT X with ⟨v9, st0, t, T', L, q1, X', hL, q2, q3, ⟨⟨v8, z1, z2⟩, z3, z4⟩, go⟩ | ⟨q, st0, t, T', L, E9, ce, q1, X', hL, q2, q3, ⟨z1, z3, z4⟩, y1, y2, y3, go⟩
      · cases z1
      · have hE : Y = E9 := by cases z1; rfl
        subst hE
        obtain ⟨-, -, k3⟩ := vx_keep (A0 := aA (e_z E)) q1 q2 hS (fun q _ hq => hq) (fun q hq => hq) hL z4
        rw [q2] at k3
        have hQX := hQ.2 Y rfl
        subst hQX
        obtain ⟨t2, s1, s2⟩ := vx_out (H := t.heap) (pc := pc) (ls := ls) (rest := st) (locs := locs ++ L) (mc := h_nx h' - n0) (ms := h_sl h' - m0) (free := aA (e_z E)) (Qc := rQ E (eT em (.inr Y)) h') (XC := rX E (eT em (.inr Y)) h')
          (fun x hx => by rw [hC.2.2.2.2.2.2.2.1, hM] at hx; cases hx) hC.2.2.2.1 y1 y2 y3 (fun t9 ht9 _ => ⟨rfl, by rw [ht9]; exact z3, va_S.F k3 ht9⟩) k3.2.2 (by omega) (by omega) T' q2 X'
        exact ⟨t2, go.trans s1, s2⟩
theorem g_bXv {em : γ → Option Value} {x : Option ((Unit ⊕ String) × aH)} {f : Unit → aH → Option ((γ ⊕ String) × aH)} (hM : M.2.2.2.2.1 = []) (hc : CC (eT fun _ => none) l E M d lr n0 pc lv stk st h x) (kk : ∀ v h1, GG (eT em) l E M d lr n0 m0 (pc + 3) lv st h1 (f v h1)) : GG (eT em) l E M d lr n0 m0 pc lv stk h (bX x f) := g_bX hM hc kk
theorem g_bXi {em : γ → Option Value} {x : Option ((Int32 ⊕ String) × aH)} {f : Int32 → aH → Option ((γ ⊕ String) × aH)} (hM : M.2.2.2.2.1 = []) (hc : CC (eT fun v => some (.int v)) l E M d lr n0 pc lv stk st h x) (kk : ∀ v h1, GG (eT em) l E M d lr n0 m0 (pc + 3) lv (.int v :: st) h1 (f v h1)) : GG (eT em) l E M d lr n0 m0 pc lv stk h (bX x f) := g_bX hM hc kk
theorem g_bXl {em : γ → Option Value} {x : Option ((Int64 ⊕ String) × aH)} {f : Int64 → aH → Option ((γ ⊕ String) × aH)} (hM : M.2.2.2.2.1 = []) (hc : CC (eT fun v => some (.long v)) l E M d lr n0 pc lv stk st h x) (kk : ∀ v h1, GG (eT em) l E M d lr n0 m0 (pc + 3) lv (.long v :: st) h1 (f v h1)) : GG (eT em) l E M d lr n0 m0 pc lv stk h (bX x f) := g_bX hM hc kk
theorem g_bXr {em : γ → Option Value} {x : Option ((Nat ⊕ String) × aH)} {f : Nat → aH → Option ((γ ⊕ String) × aH)} (hM : M.2.2.2.2.1 = []) (hc : CC (eT fun v => some (.ref (e_z E + v))) l E M d lr n0 pc lv stk st h x) (kk : ∀ v h1, GG (eT em) l E M d lr n0 m0 (pc + 3) lv (.ref (e_z E + v) :: st) h1 (f v h1)) : GG (eT em) l E M d lr n0 m0 pc lv stk h (bX x f) := g_bX hM hc kk
/-- .. what it throws is caught here -/
def hdl (em : α → aR) (l : Launch) (E : aE) (M : aM) (d lr n0 m0 pc : Nat) (lv : List (Nat × Value)) (X : String) (h1 : aH) (o : Option (α × aH)) : Prop :=
  o = none ∨ ∃ (pre : List ExceptionTableEntry) (y : ExceptionTableEntry) (suf : List ExceptionTableEntry) (name : String), M.2.2.2.2.1 = pre ++ y :: suf ∧ (∀ z ∈ pre, covers z pc = false ∨ (z.catchType ≠ 0 ∧ ∃ nm : String, Cond.classLink M.1 z.catchType nm ∈ lw_tbl ∧ (X, nm) ∈ NCL)) ∧ covers y pc = true ∧ y.catchType ≠ 0 ∧
    Cond.classLink M.1 y.catchType name ∈ lw_tbl ∧ Cond.castable X name ∈ lw_tbl ∧ ∀ q, GG em l E M d lr n0 m0 y.handlerPc lv [.ref q] h1 o
theorem g_bC {x : Option ((β ⊕ String) × aH)} {f : β → aH → Option (α × aH)} {g : String → aH → Option (α × aH)} (hc : CC (eT ev) l E M d lr n0 pc lv stk st h x) (kk : ∀ v h1, GG em l E M d lr n0 m0 (pc + 3) lv ((ev v).toList ++ st) h1 (f v h1))
    (kx : ∀ X h1, hdl em l E M d lr n0 m0 pc lv X h1 (g X h1)) : GG em l E M d lr n0 m0 pc lv stk h (bC x f g) := by
  intro r h' ho
  cases x with
  | none => cases ho
  | some q =>
    obtain ⟨v, h1⟩ := q
    obtain ⟨c1, c2, run⟩ := hc v h1 rfl
    cases v with
    | inl v =>
      replace ho : f v h1 = some (r, h') := ho
      obtain ⟨a1, a2, a3⟩ := kk v h1 r h' ho
      refine ⟨Nat.le_trans c1 a1, Nat.le_trans c2 a2, fun p e R s m args below meth c H locs cells slots ls Q hC hd9 hr9 hc9 hs9 e1 e2 hH hS hl hQ => ?_⟩
      intro T hT X
      rcases run p e R s m args below meth c H locs cells slots ls hC hd9 hr9 (by omega) (by omega) hH hS hl T hT X with ⟨v9, st0, t, T', L, q1, X', hL, q2, q3, ⟨⟨v8, z1, z2⟩, z3, z4⟩, go⟩ | ⟨q, st0, t, T', L, E9, ce, q1, X', hL, q2, q3, ⟨z1, z3, z4⟩, -⟩
      · cases z1
        cases z2
        obtain ⟨-, -, k3⟩ := vx_keep (A0 := aA (e_z E)) q1 q2 hS (fun q _ hq => hq) (fun q hq => hq) hL z4
        obtain ⟨t2, s1, s2⟩ := a3 p e R s m args below meth c t.heap (locs ++ L) _ _ ls Q hC hd9 hr9 hc9 hs9 (by omega) (by omega) z3 (by rw [← q2]; exact k3) hl hQ T' q2 X'
        exact ⟨t2, go t2 s1, s2⟩
      · cases z1
    | inr Y =>
      replace ho : g Y h1 = some (r, h') := ho
      rcases kx Y h1 with hn | ⟨pre, y, suf, name, b1, b2, b3, b4, b5, b6, b7⟩
      · rw [hn] at ho; cases ho
      · obtain ⟨a1, a2, -⟩ := b7 0 r h' ho
        refine ⟨Nat.le_trans c1 a1, Nat.le_trans c2 a2, fun p e R s m args below meth c H locs cells slots ls Q hC hd9 hr9 hc9 hs9 e1 e2 hH hS hl hQ => ?_⟩
        intro T hT X
        rcases run p e R s m args below meth c H locs cells slots ls hC hd9 hr9 (by omega) (by omega) hH hS hl T hT X with ⟨v9, st0, t, T', L, q1, X', hL, q2, q3, ⟨⟨v8, z1, z2⟩, z3, z4⟩, go⟩ | ⟨q, st0, t, T', L, E9, ce, q1, X', hL, q2, q3, ⟨z1, z3, z4⟩, y1, y2, y3, go⟩
        · cases z1
        · have hE : Y = E9 := by cases z1; rfl
          subst hE
          obtain ⟨-, -, k3⟩ := vx_keep (A0 := aA (e_z E)) q1 q2 hS (fun q _ hq => hq) (fun q hq => hq) hL z4
          rw [q2] at k3
          have hW := hC.2.2.2.2.2.2.1
          have w := (b7 q r h' ho).2.2 p e R s m args below meth c t.heap (locs ++ L) (cells + (h_nx h1 - h_nx h)) (slots + (h_sl h1 - h_sl h)) ls Q hC hd9 hr9 hc9 hs9 (by omega) (by omega) z3 k3 hl hQ
          obtain ⟨t2, s1, s2⟩ := vx_catch (pc := pc) (rest := st) hC.2.2.2.2.2.1 pre y suf (hC.2.2.2.2.2.2.2.1.trans b1) (fun z hz => (b2 z hz).imp id (fun hh => ⟨hh.1, hh.2.elim fun nm hnm => ⟨nm, tb_use hW.1 hnm.1 rfl, hW.2.2.2.2.2.2.2.2.1 _ hnm.2⟩⟩)) b3 b4 (tb_use hW.1 b5 rfl) (tb_use hW.1 b6 rfl) y1 y2 y3 w T' q2 X'
          exact ⟨t2, go.trans s1, s2⟩
theorem g_bCv {x : Option ((Unit ⊕ String) × aH)} {f : Unit → aH → Option (α × aH)} {g : String → aH → Option (α × aH)} (hc : CC (eT fun _ => none) l E M d lr n0 pc lv stk st h x) (kk : ∀ v h1, GG em l E M d lr n0 m0 (pc + 3) lv st h1 (f v h1)) (kx : ∀ X h1, hdl em l E M d lr n0 m0 pc lv X h1 (g X h1)) : GG em l E M d lr n0 m0 pc lv stk h (bC x f g) := g_bC hc kk kx
theorem g_bCi {x : Option ((Int32 ⊕ String) × aH)} {f : Int32 → aH → Option (α × aH)} {g : String → aH → Option (α × aH)} (hc : CC (eT fun v => some (.int v)) l E M d lr n0 pc lv stk st h x) (kk : ∀ v h1, GG em l E M d lr n0 m0 (pc + 3) lv (.int v :: st) h1 (f v h1)) (kx : ∀ X h1, hdl em l E M d lr n0 m0 pc lv X h1 (g X h1)) : GG em l E M d lr n0 m0 pc lv stk h (bC x f g) := g_bC hc kk kx
theorem g_bCl {x : Option ((Int64 ⊕ String) × aH)} {f : Int64 → aH → Option (α × aH)} {g : String → aH → Option (α × aH)} (hc : CC (eT fun v => some (.long v)) l E M d lr n0 pc lv stk st h x) (kk : ∀ v h1, GG em l E M d lr n0 m0 (pc + 3) lv (.long v :: st) h1 (f v h1)) (kx : ∀ X h1, hdl em l E M d lr n0 m0 pc lv X h1 (g X h1)) : GG em l E M d lr n0 m0 pc lv stk h (bC x f g) := g_bC hc kk kx
/-! the seven kinds of calls; what the tables say of a callee -/
def yH (y : MethodName) (n : Nat) : Prop := y.cls ≠ "java/lang/invoke/MethodHandle" ∧ y.cls ≠ "java/lang/invoke/VarHandle" ∧ (parseMethodDescriptor y.desc).map (fun d => d.parameters.length) = some n
def yV (C : String) (y : MethodName) (w : Cond) (n : Nat) : Prop := w ∈ lw_tbl ∧ Cond.initialized y.cls ∈ lw_tbl ∧ yH y n ∧ Cond.instanceMethod y ∈ lw_tbl ∧ Cond.selects C y y ∈ lw_tbl
def yS (y : MethodName) (w : Cond) (n : Nat) : Prop := w ∈ lw_tbl ∧ Cond.initialized y.cls ∈ lw_tbl ∧ yH y n ∧ Cond.static y ∈ lw_tbl
def yI (y : MethodName) (w : Cond) (n : Nat) : Prop := w ∈ lw_tbl ∧ Cond.initialized y.cls ∈ lw_tbl ∧ yH y n ∧ Cond.instanceMethod y ∈ lw_tbl ∧ y.name = "<init>"
theorem yH_len {y : MethodName} {n : Nat} (h : yH y n) (sig : MethodDescriptor) (hs : parseMethodDescriptor y.desc = some sig) : n = sig.parameters.length := by
  have h2 := h.2.2
  rw [hs] at h2
  exact (Option.some.inj h2).symm
theorem rP_at {args : List Value} {s U : State} {H : Heap} {locs : List Loc} (hW : WD E s s.heap) (hS : va_S (aA (e_z E)) s.heap H locs) (hH : HR (e_z E) (e_D E) (e_cA E) h H) (hU : U.heap = H) (hm : s.WarmedH U.vm) : rP E args h args.toArray U :=
  ⟨rfl, WD.go hm (fun a h1 h2 => by rw [hU]; exact hS.2.1 a h1 h2) hW, by rw [hU]; exact hH⟩
theorem HR_ob {H : Heap} {s : State} {b c : Nat} {C : String} {T : u_T} {N : Nat} (hW : WD E s s.heap) (hH : HR (e_z E) (e_D E) (e_cA E) h H) (hc : CL[c]? = some (C, T, N)) (hs : h_sh h b = 10 + c) : ∃ cellB : Cell, H[e_z E + b]? = some cellB ∧ cellB.vm.isStatics = false ∧ s.vm.findClass C = some cellB.cls := by
  obtain ⟨r, r1, cell, k1, k2, k3, -⟩ := (hH.2.2 b).2.2.2.2 c hs
  cases Option.some.inj (r1.symm.trans hc)
  exact ⟨cell, k1, by rw [k3]; rfl, by rw [k2]; exact (hW.2.1.1 c _ hc).2.1⟩
section
variable {y : MethodName} {bytes : ByteArray} {maxL n i d1 l1 : Nat} {ret : Option FieldType} {As : List Value}
theorem c_V {c b : Nat} {C : String} {T : u_T} {N : Nat} (hc : CL[c]? = some (C, T, N)) (hs : h_sh h b = 10 + c) (hMO : MO em1 l E y (.code y bytes maxL ret) d1 l1 (.ref (e_z E + b) :: As) h x) (hy : yV C y (.code y bytes maxL ret) n) (hl : Cond.methodLink M.1 i y ∈ lw_tbl)
    (hd : decode M.2.1 pc = .ok (.invokevirtual i, 3)) (hn : As.length = n) (hstk : stk = As.reverse ++ .ref (e_z E + b) :: st) (hW : cats st ≤ 8) (hD : d1 + 1 ≤ d) (hL : 8 + (maxL + 11) + l1 ≤ lr) : CC em1 l E M d lr n0 pc lv stk st h x := by
  intro v h1 hx
  obtain ⟨c1, c2, hM⟩ := hMO v h1 hx
  refine ⟨c1, c2, fun p e R s m args below meth c9 H locs cells slots ls hC hd9 hr9 hc9 hs9 hH hS hl9 => ?_⟩
  have hW9 := hC.2.2.2.2.2.2.1
  obtain ⟨w1, w2, w3, w4, w5⟩ := hy
  exact vx_runV (cc := M.2.1) (nL := M.2.2.1) (Ts := []) (own := M.1) (C := C) (n := n) (bytes := bytes) (maxL := maxL) (ret := ret) (index := i) (As := As) (g := F0 m pc ls stk) ⟨hC.1, hC.2.1, hC.2.2.2.2.1, hC.2.2.2.2.2.1, fun w h => nomatch h⟩ hM
    ⟨⟨rfl, rfl, (by show d1 + 1 ≤ _; omega), (by show 8 + (maxL + 11) + l1 ≤ _; omega), (fun w hw a' U hm => by rw [List.mem_singleton.mp hw]; exact tb_move rfl hm (tb_use hW9.1 w1 rfl (A := a'))), List.mem_singleton.mpr rfl, tb_use hW9.1 w1 rfl, tb_use hW9.1 w2 rfl, ⟨w3.1, w3.2.1⟩, yH_len w3, tb_use hW9.1 hl rfl⟩, tb_use hW9.1 w4 rfl, tb_use hW9.1 w5 rfl⟩
    ⟨rP.blind, HR_ob hW9 hH hc hs, fun U hU hm => rP_at hW9 hS hH hU hm⟩ rfl hn hl9.1 hstk (by show 2 * 0 + cats st ≤ 8; omega) hd ⟨hc9, hs9⟩
theorem c_VN {c b : Nat} {C host : String} {T : u_T} {N : Nat} (hc : CL[c]? = some (C, T, N)) (hs : h_sh h b = 10 + c) (hMO : MO em1 l E y (.code y bytes maxL ret) d1 l1 (.ref (e_z E + b) :: As) h x) (hy : yV C y (.code y bytes maxL ret) n) (hl : Cond.methodLinkNest M.1 i y host ∈ lw_tbl)
    (hd : decode M.2.1 pc = .ok (.invokevirtual i, 3)) (hn : As.length = n) (hstk : stk = As.reverse ++ .ref (e_z E + b) :: st) (hW : cats st ≤ 8) (hD : d1 + 1 ≤ d) (hL : 8 + (maxL + 11) + l1 ≤ lr) : CC em1 l E M d lr n0 pc lv stk st h x := by
  intro v h1 hx
  obtain ⟨c1, c2, hM⟩ := hMO v h1 hx
  refine ⟨c1, c2, fun p e R s m args below meth c9 H locs cells slots ls hC hd9 hr9 hc9 hs9 hH hS hl9 => ?_⟩
  have hW9 := hC.2.2.2.2.2.2.1
  obtain ⟨w1, w2, w3, w4, w5⟩ := hy
  exact vx_runVN (cc := M.2.1) (nL := M.2.2.1) (Ts := []) (own := M.1) (C := C) (n := n) (bytes := bytes) (maxL := maxL) (ret := ret) (index := i) (As := As) (g := F0 m pc ls stk) ⟨hC.1, hC.2.1, hC.2.2.2.2.1, hC.2.2.2.2.2.1, fun w h => nomatch h⟩ hM
    ⟨⟨⟨rfl, rfl, (by show d1 + 1 ≤ _; omega), (by show 8 + (maxL + 11) + l1 ≤ _; omega), (fun w hw a' U hm => by rw [List.mem_singleton.mp hw]; exact tb_move rfl hm (tb_use hW9.1 w1 rfl (A := a'))), List.mem_singleton.mpr rfl⟩, tb_use hW9.1 w1 rfl, tb_use hW9.1 w2 rfl, ⟨w3.1, w3.2.1⟩, yH_len w3, tb_use hW9.1 hl rfl⟩, tb_use hW9.1 w4 rfl, tb_use hW9.1 w5 rfl⟩
    ⟨rP.blind, HR_ob hW9 hH hc hs, fun U hU hm => rP_at hW9 hS hH hU hm⟩ rfl hn hl9.1 hstk (by show 2 * 0 + cats st ≤ 8; omega) hd ⟨hc9, hs9⟩
theorem c_S (hMO : MO em1 l E y (.code y bytes maxL ret) d1 l1 As h x) (hy : yS y (.code y bytes maxL ret) n) (hl : Cond.methodLink M.1 i y ∈ lw_tbl)
    (hd : decode M.2.1 pc = .ok (.invokestatic i, 3)) (hn : As.length = n) (hstk : stk = As.reverse ++ st) (hW : cats st ≤ 8) (hD : d1 + 1 ≤ d) (hL : 8 + (maxL + 11) + l1 ≤ lr) : CC em1 l E M d lr n0 pc lv stk st h x := by
  intro v h1 hx
  obtain ⟨c1, c2, hM⟩ := hMO v h1 hx
  refine ⟨c1, c2, fun p e R s m args below meth c9 H locs cells slots ls hC hd9 hr9 hc9 hs9 hH hS hl9 => ?_⟩
  have hW9 := hC.2.2.2.2.2.2.1
  obtain ⟨w1, w2, w3, w4⟩ := hy
  exact vx_runS (cc := M.2.1) (nL := M.2.2.1) (Ts := []) (own := M.1) (n := n) (bytes := bytes) (maxL := maxL) (ret := ret) (index := i) (As := As) (g := F0 m pc ls stk) ⟨hC.1, hC.2.1, hC.2.2.2.2.1, hC.2.2.2.2.2.1, fun w h => nomatch h⟩ hM
    ⟨⟨rfl, rfl, (by show d1 + 1 ≤ _; omega), (by show 8 + (maxL + 11) + l1 ≤ _; omega), (fun w hw a' U hm => by rw [List.mem_singleton.mp hw]; exact tb_move rfl hm (tb_use hW9.1 w1 rfl (A := a'))), List.mem_singleton.mpr rfl, tb_use hW9.1 w1 rfl, tb_use hW9.1 w2 rfl, ⟨w3.1, w3.2.1⟩, yH_len w3, tb_use hW9.1 hl rfl⟩, tb_use hW9.1 w4 rfl⟩
    ⟨rP.blind, fun U hU hm => rP_at hW9 hS hH hU hm⟩ rfl hn hl9.1 hstk (by show 2 * 0 + cats st ≤ 8; omega) hd ⟨hc9, hs9⟩
theorem c_SN {host : String} (hMO : MO em1 l E y (.code y bytes maxL ret) d1 l1 As h x) (hy : yS y (.code y bytes maxL ret) n) (hl : Cond.methodLinkNest M.1 i y host ∈ lw_tbl)
    (hd : decode M.2.1 pc = .ok (.invokestatic i, 3)) (hn : As.length = n) (hstk : stk = As.reverse ++ st) (hW : cats st ≤ 8) (hD : d1 + 1 ≤ d) (hL : 8 + (maxL + 11) + l1 ≤ lr) : CC em1 l E M d lr n0 pc lv stk st h x := by
  intro v h1 hx
  obtain ⟨c1, c2, hM⟩ := hMO v h1 hx
  refine ⟨c1, c2, fun p e R s m args below meth c9 H locs cells slots ls hC hd9 hr9 hc9 hs9 hH hS hl9 => ?_⟩
  have hW9 := hC.2.2.2.2.2.2.1
  obtain ⟨w1, w2, w3, w4⟩ := hy
  exact vx_runSN (cc := M.2.1) (nL := M.2.2.1) (Ts := []) (own := M.1) (n := n) (bytes := bytes) (maxL := maxL) (ret := ret) (index := i) (As := As) (g := F0 m pc ls stk) ⟨hC.1, hC.2.1, hC.2.2.2.2.1, hC.2.2.2.2.2.1, fun w h => nomatch h⟩ hM
    ⟨⟨⟨rfl, rfl, (by show d1 + 1 ≤ _; omega), (by show 8 + (maxL + 11) + l1 ≤ _; omega), (fun w hw a' U hm => by rw [List.mem_singleton.mp hw]; exact tb_move rfl hm (tb_use hW9.1 w1 rfl (A := a'))), List.mem_singleton.mpr rfl⟩, tb_use hW9.1 w1 rfl, tb_use hW9.1 w2 rfl, ⟨w3.1, w3.2.1⟩, yH_len w3, tb_use hW9.1 hl rfl⟩, tb_use hW9.1 w4 rfl, trivial⟩
    ⟨rP.blind, fun U hU hm => rP_at hW9 hS hH hU hm⟩ rfl hn hl9.1 hstk (by show 2 * 0 + cats st ≤ 8; omega) hd ⟨hc9, hs9⟩
theorem c_I {b : Nat} (hMO : MO em1 l E y (.code y bytes maxL none) d1 l1 (.ref (e_z E + b) :: As) h x) (hy : yI y (.code y bytes maxL none) n) (hl : Cond.methodLink M.1 i y ∈ lw_tbl)
    (hd : decode M.2.1 pc = .ok (.invokespecial i, 3)) (hn : As.length = n) (hstk : stk = As.reverse ++ .ref (e_z E + b) :: st) (hW : cats st ≤ 8) (hD : d1 + 1 ≤ d) (hL : 8 + (maxL + 11) + l1 ≤ lr) : CC em1 l E M d lr n0 pc lv stk st h x := by
  intro v h1 hx
  obtain ⟨c1, c2, hM⟩ := hMO v h1 hx
  refine ⟨c1, c2, fun p e R s m args below meth c9 H locs cells slots ls hC hd9 hr9 hc9 hs9 hH hS hl9 => ?_⟩
  have hW9 := hC.2.2.2.2.2.2.1
  obtain ⟨w1, w2, w3, w4, w5⟩ := hy
  exact vx_runI (cc := M.2.1) (nL := M.2.2.1) (Ts := []) (own := M.1) (n := n) (bytes := bytes) (maxL := maxL) (index := i) (As := As) (g := F0 m pc ls stk) ⟨hC.1, hC.2.1, hC.2.2.2.2.1, hC.2.2.2.2.2.1, fun w h => nomatch h⟩ hM
    ⟨⟨rfl, rfl, (by show d1 + 1 ≤ _; omega), (by show 8 + (maxL + 11) + l1 ≤ _; omega), (fun w hw a' U hm => by rw [List.mem_singleton.mp hw]; exact tb_move rfl hm (tb_use hW9.1 w1 rfl (A := a'))), List.mem_singleton.mpr rfl, tb_use hW9.1 w1 rfl, tb_use hW9.1 w2 rfl, ⟨w3.1, w3.2.1⟩, yH_len w3, tb_use hW9.1 hl rfl⟩, w5, tb_use hW9.1 w4 rfl⟩
    ⟨rP.blind, fun U hU hm => rP_at hW9 hS hH hU hm⟩ rfl hn hl9.1 hstk (by show 2 * 0 + cats st ≤ 8; omega) hd ⟨hc9, hs9⟩
theorem c_IN {b : Nat} {host : String} (hMO : MO em1 l E y (.code y bytes maxL none) d1 l1 (.ref (e_z E + b) :: As) h x) (hy : yI y (.code y bytes maxL none) n) (hl : Cond.methodLinkNest M.1 i y host ∈ lw_tbl)
    (hd : decode M.2.1 pc = .ok (.invokespecial i, 3)) (hn : As.length = n) (hstk : stk = As.reverse ++ .ref (e_z E + b) :: st) (hW : cats st ≤ 8) (hD : d1 + 1 ≤ d) (hL : 8 + (maxL + 11) + l1 ≤ lr) : CC em1 l E M d lr n0 pc lv stk st h x := by
  intro v h1 hx
  obtain ⟨c1, c2, hM⟩ := hMO v h1 hx
  refine ⟨c1, c2, fun p e R s m args below meth c9 H locs cells slots ls hC hd9 hr9 hc9 hs9 hH hS hl9 => ?_⟩
  have hW9 := hC.2.2.2.2.2.2.1
  obtain ⟨w1, w2, w3, w4, w5⟩ := hy
  exact vx_runIN (cc := M.2.1) (nL := M.2.2.1) (Ts := []) (own := M.1) (n := n) (bytes := bytes) (maxL := maxL) (index := i) (As := As) (g := F0 m pc ls stk) ⟨hC.1, hC.2.1, hC.2.2.2.2.1, hC.2.2.2.2.2.1, fun w h => nomatch h⟩ hM
    ⟨⟨⟨rfl, rfl, (by show d1 + 1 ≤ _; omega), (by show 8 + (maxL + 11) + l1 ≤ _; omega), (fun w hw a' U hm => by rw [List.mem_singleton.mp hw]; exact tb_move rfl hm (tb_use hW9.1 w1 rfl (A := a'))), List.mem_singleton.mpr rfl⟩, tb_use hW9.1 w1 rfl, tb_use hW9.1 w2 rfl, ⟨w3.1, w3.2.1⟩, yH_len w3, tb_use hW9.1 hl rfl⟩, w5, tb_use hW9.1 w4 rfl⟩
    ⟨rP.blind, fun U hU hm => rP_at hW9 hS hH hU hm⟩ rfl hn hl9.1 hstk (by show 2 * 0 + cats st ≤ 8; omega) hd ⟨hc9, hs9⟩
theorem c_SX {hh : List (Nat × Nat × Nat × Nat)} (hMO : MO em1 l E y (.codeWith y bytes maxL ret hh) d1 l1 As h x) (hy : yS y (.codeWith y bytes maxL ret hh) n) (hl : Cond.methodLink M.1 i y ∈ lw_tbl)
    (hd : decode M.2.1 pc = .ok (.invokestatic i, 3)) (hn : As.length = n) (hstk : stk = As.reverse ++ st) (hW : cats st ≤ 8) (hD : d1 + 1 ≤ d) (hL : 8 + (maxL + 11) + l1 ≤ lr) : CC em1 l E M d lr n0 pc lv stk st h x := by
  intro v h1 hx
  obtain ⟨c1, c2, hM⟩ := hMO v h1 hx
  refine ⟨c1, c2, fun p e R s m args below meth c9 H locs cells slots ls hC hd9 hr9 hc9 hs9 hH hS hl9 => ?_⟩
  have hW9 := hC.2.2.2.2.2.2.1
  obtain ⟨w1, w2, w3, w4⟩ := hy
  exact vx_runSX (cc := M.2.1) (nL := M.2.2.1) (Ts := []) (own := M.1) (n := n) (bytes := bytes) (maxL := maxL) (ret := ret) (hh := hh) (index := i) (As := As) (g := F0 m pc ls stk) ⟨hC.1, hC.2.1, hC.2.2.2.2.1, hC.2.2.2.2.2.1, fun w h => nomatch h⟩ hM
    ⟨⟨rfl, rfl, (by show d1 + 1 ≤ _; omega), (by show 8 + (maxL + 11) + l1 ≤ _; omega), (fun w hw a' U hm => by rw [List.mem_singleton.mp hw]; exact tb_move rfl hm (tb_use hW9.1 w1 rfl (A := a'))), List.mem_singleton.mpr rfl⟩, tb_use hW9.1 w1 rfl, tb_use hW9.1 w2 rfl, ⟨w3.1, w3.2.1⟩, yH_len w3, tb_use hW9.1 hl rfl, tb_use hW9.1 w4 rfl⟩
    ⟨rP.blind, fun U hU hm => rP_at hW9 hS hH hU hm⟩ rfl hn hl9.1 hstk (by show 2 * 0 + cats st ≤ 8; omega) hd ⟨hc9, hs9⟩
end
/-- a receiver of its class -/
def gS {γ : Type} (h : aH) (c b : Nat) (x : Option γ) : Option γ := if h_sh h b = 10 + c then x else none
theorem g_gS {c b : Nat} (k : h_sh h b = 10 + c → GG em l E M d lr n0 m0 pc lv st h o) : GG em l E M d lr n0 m0 pc lv st h (gS h c b o) := by
  by_cases hs : h_sh h b = 10 + c
  · rw [gS, if_pos hs]; exact k hs
  · rw [gS, if_neg hs]; exact g_none
end GGS6
