/-- a cell was made, at the end; it may be held or not -/
theorem HR.mk {z : Nat} {D : va_G} {cA : Nat → ClassId} {h h' : aH} {H H1 : Heap} (hR : HR z D cA h H) (hn : h_nx h' = h_nx h + 1)
    (hsh : ∀ k, k ≠ h_nx h → h_sh h' k = h_sh h k) (hln : ∀ k, k ≠ h_nx h → h_ln h' k = h_ln h k)
    (hi : ∀ k, k ≠ h_nx h → h_iv h' k = h_iv h k) (hl : ∀ k, k ≠ h_nx h → h_lv h' k = h_lv h k) (hr : ∀ k, k ≠ h_nx h → h_rv h' k = h_rv h k)
    (hz : H1.size = H.size + 1) (oq : ∀ q, q < H.size → H1[q]? = H[q]?) (ho : aC z D cA h' (h_nx h) H1) : HR z D cA h' H1 := by
  refine ⟨by rw [hz, hn, hR.1]; omega, by omega, fun k => ?_⟩
  by_cases hk : k = h_nx h
  · subst hk; exact ho
  · obtain ⟨a1, a2, a3, a4, a5⟩ := hR.2.2 k
    have hq : h_sh h k ≠ 0 → H1[z + k]? = H[z + k]? := fun hs => oq _ (by have := (a1 hs).2; rw [hR.1]; omega)
    refine ⟨?_, ?_, ?_, ?_, ?_⟩
    · rw [hsh k hk, hn]; intro hs; have := a1 hs; exact ⟨this.1, by omega⟩
    · intro t ht hs; rw [hsh k hk] at hs; rw [hq (by omega), hln k hk, hi k hk]; exact a2 t ht hs
    · intro hs; rw [hsh k hk] at hs; rw [hq (by omega), hln k hk, hl k hk]; exact a3 hs
    · intro t h4 h9 hs; rw [hsh k hk] at hs; rw [hq (by omega), hln k hk, hr k hk]; exact a4 t h4 h9 hs
    · intro c hs; rw [hsh k hk] at hs
      obtain ⟨r, r1, r2⟩ := a5 c hs
      refine ⟨r, r1, (r2.kept (hq (by omega))).to (fun f _ => ?_)⟩
      cases hct : ct c f <;> simp [fval, hi k hk, hl k hk, hr k hk]
/-! the fixed part of every method's world -/
/-- what a method may change -/
def aA (z : Nat) : Nat → Prop := fun q => z < q
/-- the texts of the exceptions -/
def TXL : List (String × Nat × String) := [("BrigadePagers", 76, "the text buffer has no room for 20 bytes more"), ("BrigadePagers", 87, "no such length"), ("BrigadePagers", 96, "the text has an error"), ("BrigadePagers", 118, "no such sort"), ("BrigadePagers", 128, "nothing has this name"), ("BrigadePagers", 147, "no such span of time"), ("BrigadePagers", 412, "no such person"), ("BrigadePagers", 167, "minutes are 0 to 1440"), ("BrigadePagers", 175, "the person stays tired"), ("BrigadePagers", 414, "they are the same person"), ("BrigadePagers", 416, "no such pager"), ("BrigadePagers", 202, "the chain has no such person"), ("BrigadePagers", 427, "no such place"), ("BrigadePagers", 216, "time is past, or too late"), ("BrigadePagers", 221, "minutes are 1 to 1440"), ("BrigadePagers", 230, "the pager cannot come to the person"), ("BrigadePagers", 432, "no such engine"), ("BrigadePagers", 445, "no such call"), ("BrigadePagers", 447, "no such engine left"), ("BrigadePagers", 275, "the crew has no such member"), ("BrigadePagers", 437, "no such kind"), ("BrigadePagers", 441, "the kind has no such engine"), ("BrigadePagers", 443, "the engine would not leave"), ("BrigadePagers", 316, "no such post"), ("BrigadePagers", 336, "the call would not be answered within 48 hours"), ("BrigadePagers", 341, "the call would be answered without a hand-on"), ("BrigadePagers", 353, "no hand-on helps"), ("BrigadePagers", 355, "there are 16 calls already"), ("BrigadePagers", 363, "there is a reason against the hand-on"), ("BrigadePagers", 365, "the pager has no hand-on"), ("BrigadePagers", 367, "the time would be too late"), ("BrigadePagers", 369, "they are the same place"), ("BrigadePagers", 374, "the present place stays"), ("BrigadePagers", 384, "the engine is out"), ("BrigadePagers", 389, "a trust is 0 to 9"), ("BrigadePagers", 394, "there is no change to undo"), ("BrigadePagers", 449, "no such slot"), ("BrigadePagers", 410, "nothing is saved in the slot")]
/-- the reader's words -/
def RDL : List (Nat × String) := [(123, "night"), (145, "person"), (147, "trust"), (149, "pager"), (151, "engine"), (153, "kind"), (182, "chief"), (184, "driver"), (186, "medic"), (188, "smoke"), (248, "any")]
def RDB : List (List Int32) := [[110, 105, 103, 104, 116], [112, 101, 114, 115, 111, 110], [116, 114, 117, 115, 116], [112, 97, 103, 101, 114], [101, 110, 103, 105, 110, 101], [107, 105, 110, 100], [99, 104, 105, 101, 102], [100, 114, 105, 118, 101, 114], [109, 101, 100, 105, 99], [115, 109, 111, 107, 101], [97, 110, 121]]
def rdb (i : Nat) : List Int32 := RDB.getD i []
/-- classes that a handler must pass by -/
def NCL : List (String × String) := [("java/util/NoSuchElementException", "java/lang/IllegalArgumentException"), ("java/lang/IllegalArgumentException", "java/lang/IndexOutOfBoundsException"), ("java/util/NoSuchElementException", "java/lang/IndexOutOfBoundsException"), ("java/lang/IllegalStateException", "java/lang/IndexOutOfBoundsException"), ("java/util/NoSuchElementException", "java/lang/IllegalStateException"), ("java/lang/IllegalStateException", "java/lang/IllegalArgumentException")]
def AOL : List String := ["BrigadePagers$State", "BrigadePagers$Person", "BrigadePagers$Pager", "BrigadePagers$Engine", "BrigadePagers$Kind"]
/-- parameters: the base, the classes' numbers, the arrays' classes, where the strings lie, where their bytes lie -/
abbrev aE : Type := Nat × va_G × (Nat → ClassId) × (Nat → Nat) × (Nat → Nat) × Nat × List Int32
def e_z (E : aE) : Nat := E.1
def e_D (E : aE) : va_G := E.2.1
def e_cA (E : aE) : Nat → ClassId := E.2.2.1
def e_sA (E : aE) : Nat → Nat := E.2.2.2.1
def e_sV (E : aE) : Nat → Nat := E.2.2.2.2.1
/-- the script: its address, its ints -/
def e_ca (E : aE) : Nat := E.2.2.2.2.2.1
def e_cs (E : aE) : List Int32 := E.2.2.2.2.2.2
/-- the i-th word of the reader: an object of String with its bytes -/
def sF (E : aE) (i : Nat) (U : State) (H : Heap) : Prop := vk_R "BrigadePagers$Reader" (RDL.getD i (0, "")).1 (RDL.getD i (0, "")).2 (e_sA E i) U ∧ va_O "java/lang/String" (e_sA E i) (aA (e_z E)) U H ∧ va_OF "java/lang/String" "coder" "B" (.int 0) (e_sA E i) (aA (e_z E)) U H ∧ va_OF "java/lang/String" "value" "[B" (.ref (e_sV E i)) (e_sA E i) (aA (e_z E)) U H ∧ va_T .byte (e_sV E i) (rdb i).length (fun j => .int ((rdb i).getD j 0)) (aA (e_z E)) U H
/-- what holds in every state of the run: the tables, the classes, the statics, the strings -/
def WD (E : aE) (U : State) (H : Heap) : Prop :=
  tb_at U ∧ va_K (e_D E) CL (TYS (e_cA E)) U ∧ vx_Zq Bundle.tN "UNASSIGNED_STACK" Bundle.steD (aA (e_z E)) U H ∧ vx_Zq Bundle.tN "SUPPRESSED_SENTINEL" Bundle.listD (aA (e_z E)) U H ∧
  (va_Z "java/lang/String" "COMPACT_STRINGS" "Z" (.int 1) (aA (e_z E)) U H ∧ vx_Zq "jdk/internal/util/Preconditions" "SIOOBE_FORMATTER" "Ljava/util/function/BiFunction;" (aA (e_z E)) U H) ∧ (∀ q ∈ TXL, ∃ sa, vk_R q.1 q.2.1 q.2.2 sa U) ∧ (∀ i, i < 11 → sF E i U H) ∧ (∀ C ∈ AOL, va_AO C U) ∧ (∀ q ∈ NCL, va_Nc q.1 q.2 U) ∧ va_T .int (e_ca E) (e_cs E).length (fun j => .int ((e_cs E).getD j 0)) (aA (e_z E)) U H
theorem sF.go {E : aE} {i : Nat} {s U : State} {H H1 : Heap} (hW : s.WarmedH U.vm) (hq : ∀ a : Nat, a < H.size → ¬ aA (e_z E) a → H1[a]? = H[a]?) (h : sF E i s H) : sF E i U H1 :=
  ⟨h.1.warm hW, (va_O.moved hW.alike h.2.1).kept hq, (va_OF.moved hW.alike h.2.2.1).kept hq, (va_OF.moved hW.alike h.2.2.2.1).kept hq, (va_T.moved hW.alike h.2.2.2.2).kept hq⟩
theorem WD.go {E : aE} {s U : State} {H H1 : Heap} (hW : s.WarmedH U.vm) (hq : ∀ a : Nat, a < H.size → ¬ aA (e_z E) a → H1[a]? = H[a]?) (h : WD E s H) : WD E U H1 := by
  obtain ⟨h1, h2, h3, h4, h5, h6, h7, h8, h9, h10⟩ := h
  exact ⟨tb_warm hW h1, h2.moved hW.alike, (vx_Zq.moved hW.alike h3).kept hq, (vx_Zq.moved hW.alike h4).kept hq, ⟨(va_Z.moved hW.alike h5.1).kept hq, (vx_Zq.moved hW.alike h5.2).kept hq⟩,
    fun q hm => (h6 q hm).elim fun sa hs => ⟨sa, hs.warm hW⟩, fun i hi => (h7 i hi).go hW hq, fun C hC => (h8 C hC).moved hW.alike, fun q hm => (h9 q hm).moved hW.alike, (va_T.moved hW.alike h10).kept hq⟩
/-! results: what a method hands back (or the class that it throws), and the heap behind it -/
abbrev aR : Type := Option Value ⊕ String
def rQ (E : aE) (r : aR) (h' : aH) : Array Value → State → Outcome → State → Prop := fun _ st o t => (∃ v, r = .inl v ∧ o = .returned v) ∧ HR (e_z E) (e_D E) (e_cA E) h' t.heap ∧ va_F (aA (e_z E)) st t
def rX (E : aE) (r : aR) (h' : aH) : String → State → State → Prop := fun X st t => r = .inr X ∧ HR (e_z E) (e_D E) (e_cA E) h' t.heap ∧ va_F (aA (e_z E)) st t
def rP (E : aE) (args : List Value) (h : aH) : Array Value → State → Prop := fun v U => v = args.toArray ∧ WD E U U.heap ∧ HR (e_z E) (e_D E) (e_cA E) h U.heap
theorem rP.blind {E : aE} {args : List Value} {h : aH} : FrameBlind (rP E args h) := fun a U g mk hp => ⟨hp.1, WD.go (s := U) (U := U.calling g mk a) (H := U.heap) (State.WarmedH.refl U) (fun _ _ _ => rfl) hp.2.1, hp.2.2⟩
/-- a contract at one call: method y, code word w, depth d, locals' room lr, arguments, heap before, result, heap behind -/
def MT (l : Launch) (E : aE) (y : MethodName) (w : Cond) (d lr : Nat) (args : List Value) (h : aH) (r : aR) (h' : aH) : Prop :=
  h_nx h ≤ h_nx h' ∧ h_sl h ≤ h_sl h' ∧ vx_Met l y [w] { frames := d, cells := h_nx h' - h_nx h, slots := h_sl h' - h_sl h, locals := lr } (rP E args h) (rQ E r h') (rX E r h') (h_nx h' - h_nx h) (h_sl h' - h_sl h) (aA (e_z E))
/-- .. of a function's value -/
def MO {α : Type} (em : α → aR) (l : Launch) (E : aE) (y : MethodName) (w : Cond) (d lr : Nat) (args : List Value) (h : aH) (o : Option (α × aH)) : Prop :=
  ∀ r h', o = some (r, h') → MT l E y w d lr args h (em r) h'
