/-! changes: the two halves of the invariant; a state is copied -/
/-- .. of the class -/
def IC (h : aH) (T : Nat → Nat → Nat) (P Q : Nat) : Prop :=
  (Sh h) ∧
  ((P = 4 ∧ Q = 69) ∨ (P = 69 ∧ Q = 4)) ∧
  (h_rv h 1 3 = P) ∧
  (h_rv h 1 4 = Q) ∧
  (PlD T) ∧
  (PlR h P T) ∧
  (RwB T (T 413)) ∧
  (StR h 134 P T (T 413)) ∧
  (h_iv h 180 0 = nI (T 412 6) ∧ T 412 6 ≤ 10) ∧
  (∀ i, i < 10 → ∃ m, m < 10 ∧ h_rv h 181 i = 184 + 19 * m) ∧
  (∀ i j, i < 10 → j < 10 → h_rv h 181 i = h_rv h 181 j → i = j) ∧
  (∀ i, i < T 412 6 → RwB T (rw4 T 414 i) ∧ StR h (h_rv h 181 i) P T (rw4 T 414 i)) ∧
  (∀ s, s < 2 → h_iv h 183 s = nI (T 417 s) ∧ T 417 s ≤ 1 ∧ (T 417 s = 1 → RwB T (rw4 T 415 s) ∧ StR h (374 + 19 * s) P T (rw4 T 415 s))) ∧
  (h_iv h 1 1 = nI (T 412 29) ∧ T 412 29 ≤ 1200 ∧ ∀ k, k < T 412 29 → T 435 k < 256 ∧ h_iv h 2 k = (nI (T 435 k)).toInt8.toInt32)
theorem IC.sh {h : aH} {T : Nat → Nat → Nat} {P Q : Nat} (I : IC h T P Q) : Sh h := I.1
theorem IC.pls {h : aH} {T : Nat → Nat → Nat} {P Q : Nat} (I : IC h T P Q) : (P = 4 ∧ Q = 69) ∨ (P = 69 ∧ Q = 4) := I.2.1
theorem IC.pl {h : aH} {T : Nat → Nat → Nat} {P Q : Nat} (I : IC h T P Q) : h_rv h 1 3 = P := I.2.2.1
theorem IC.sp {h : aH} {T : Nat → Nat → Nat} {P Q : Nat} (I : IC h T P Q) : h_rv h 1 4 = Q := I.2.2.2.1
theorem IC.D {h : aH} {T : Nat → Nat → Nat} {P Q : Nat} (I : IC h T P Q) : PlD T := I.2.2.2.2.1
theorem IC.y {h : aH} {T : Nat → Nat → Nat} {P Q : Nat} (I : IC h T P Q) : PlR h P T := I.2.2.2.2.2.1
theorem IC.RB {h : aH} {T : Nat → Nat → Nat} {P Q : Nat} (I : IC h T P Q) : RwB T (T 413) := I.2.2.2.2.2.2.1
theorem IC.x {h : aH} {T : Nat → Nat → Nat} {P Q : Nat} (I : IC h T P Q) : StR h 134 P T (T 413) := I.2.2.2.2.2.2.2.1
theorem IC.kc {h : aH} {T : Nat → Nat → Nat} {P Q : Nat} (I : IC h T P Q) : h_iv h 180 0 = nI (T 412 6) ∧ T 412 6 ≤ 10 := I.2.2.2.2.2.2.2.2.1
theorem IC.kA {h : aH} {T : Nat → Nat → Nat} {P Q : Nat} (I : IC h T P Q) : ∀ i, i < 10 → ∃ m, m < 10 ∧ h_rv h 181 i = 184 + 19 * m := I.2.2.2.2.2.2.2.2.2.1
theorem IC.kI {h : aH} {T : Nat → Nat → Nat} {P Q : Nat} (I : IC h T P Q) : ∀ i j, i < 10 → j < 10 → h_rv h 181 i = h_rv h 181 j → i = j := I.2.2.2.2.2.2.2.2.2.2.1
theorem IC.kp {h : aH} {T : Nat → Nat → Nat} {P Q : Nat} (I : IC h T P Q) : ∀ i, i < T 412 6 → RwB T (rw4 T 414 i) ∧ StR h (h_rv h 181 i) P T (rw4 T 414 i) := I.2.2.2.2.2.2.2.2.2.2.2.1
theorem IC.sl {h : aH} {T : Nat → Nat → Nat} {P Q : Nat} (I : IC h T P Q) : ∀ s, s < 2 → h_iv h 183 s = nI (T 417 s) ∧ T 417 s ≤ 1 ∧ (T 417 s = 1 → RwB T (rw4 T 415 s) ∧ StR h (374 + 19 * s) P T (rw4 T 415 s)) := I.2.2.2.2.2.2.2.2.2.2.2.2.1
theorem IC.tx {h : aH} {T : Nat → Nat → Nat} {P Q : Nat} (I : IC h T P Q) : h_iv h 1 1 = nI (T 412 29) ∧ T 412 29 ≤ 1200 ∧ ∀ k, k < T 412 29 → T 435 k < 256 ∧ h_iv h 2 k = (nI (T 435 k)).toInt8.toInt32 := I.2.2.2.2.2.2.2.2.2.2.2.2.2
/-- what a change of the class leaves -/
def CK (c : Nat) (h h1 : aH) : Prop := h_nx h ≤ h_nx h1 ∧ h_nx h1 ≤ h_nx h + c ∧ h_sl h1 ≤ h_sl h + 12 * c ∧ (∀ o, o < 463 → h_sh h1 o = h_sh h o ∧ h_ln h1 o = h_ln h o) ∧ (∀ o, (o < 4 ∨ (412 ≤ o ∧ o < 463)) → h_iv h1 o = h_iv h o) ∧ (∀ o k, 412 ≤ o → o < 463 → h_rv h1 o k = h_rv h o k) ∧ ∀ o k, o < 462 → h_lv h1 o k = h_lv h o k
/-- what one of the reference leaves -/
def RK (h h1 : aH) : Prop := h_nx h1 = h_nx h ∧ h_sl h1 = h_sl h ∧ h_sh h1 = h_sh h ∧ h_ln h1 = h_ln h ∧ h_rv h1 = h_rv h ∧ h_lv h1 = h_lv h ∧ (∀ o, o < 412 → h_iv h1 o = h_iv h o) ∧ (∀ o, 436 ≤ o → o < 456 → h_iv h1 o = h_iv h o) ∧ h_iv h1 412 31 = h_iv h 412 31 ∧ h_iv h1 412 32 = h_iv h 412 32
section
variable {h : aH} {T : Nat → Nat → Nat} {P Q : Nat}
theorem IV.c (I : IV h T P Q) : IC h T P Q := ⟨I.sh, I.pls, I.pl, I.sp, I.D, I.y, I.RB, I.x, I.kc, I.kA, I.kI, I.kp, I.sl, I.tx⟩
theorem IC.hP (I : IC h T P Q) : P ∈ plL := by
  rcases I.pls with h | h <;> (rw [h.1]; decide)
theorem IC.R (I : IC h T P Q) : RwD T (T 413) := I.RB.1
theorem IC.g3 (I : IC h T P Q) : gr h 11 1 3 = some P := gr_ok9 (c_cX I.sh) I.pl (pl_ne0 P I.hP)
theorem CK.rf : CK 0 h h := ⟨Nat.le_refl _, Nat.le_refl _, Nat.le_refl _, fun _ _ => ⟨rfl, rfl⟩, fun _ _ => rfl, fun _ _ _ _ => rfl, fun _ _ _ => rfl⟩
theorem CK.trans {c d : Nat} {h h1 h2 : aH} (x : CK c h h1) (y : CK d h1 h2) : CK (c + d) h h2 := by
  obtain ⟨x1, x2, x3, x4, x5, x6, x7⟩ := x
  obtain ⟨y1, y2, y3, y4, y5, y6, y7⟩ := y
  exact ⟨by omega, by omega, by omega, fun o ho => ⟨(y4 o ho).1.trans (x4 o ho).1, (y4 o ho).2.trans (x4 o ho).2⟩, fun o ho => (y5 o ho).trans (x5 o ho), fun o k h1 h2 => (y6 o k h1 h2).trans (x6 o k h1 h2), fun o k ho => (y7 o k ho).trans (x7 o k ho)⟩
theorem CK.le {c d : Nat} {h h1 : aH} (x : CK c h h1) (hc : c ≤ d) : CK d h h1 := by
  obtain ⟨x1, x2, x3, x4, x5, x6, x7⟩ := x
  exact ⟨x1, by omega, by omega, x4, x5, x6, x7⟩
theorem CK.fr {A : Nat → Prop} {h h1 : aH} (x : Fr A h h1) (hA : ∀ o, A o → 4 ≤ o ∧ o < 412) : CK 0 h h1 := by
  obtain ⟨x1, x2, x3, x4, x5, x6, x7⟩ := x
  exact ⟨by omega, by omega, by omega, fun o _ => ⟨by rw [x3], by rw [x4]⟩, fun o ho => x7 o (fun q => by have := hA o q; omega), fun o k _ _ => by rw [x5], fun o k _ => by rw [x6]⟩
theorem CK.mu {h h1 : aH} (x : MuF h h1) : CK 0 h h1 := by
  obtain ⟨x1, x2, x3, x4, x5, x6, x7⟩ := x
  exact ⟨by omega, by omega, by omega, fun o _ => ⟨by rw [x3], by rw [x4]⟩, fun o ho => funext fun k => x6 o k (fun q => by unfold MUx at q; omega), fun o k _ _ => x7 o k (fun q => by omega), fun o k _ => by rw [x5]⟩
theorem CK.L {y : Int64} : CK 0 h (h_sL h 462 0 y) := ⟨Nat.le_refl _, Nat.le_refl _, Nat.le_refl _, fun _ _ => ⟨rfl, rfl⟩, fun _ _ => rfl, fun _ _ _ _ => rfl, fun o k ho => u2n (by omega)⟩
theorem RK.rf : RK h h := ⟨rfl, rfl, rfl, rfl, rfl, rfl, fun _ _ => rfl, fun _ _ _ => rfl, rfl, rfl⟩
theorem RK.trans {h h1 h2 : aH} (x : RK h h1) (y : RK h1 h2) : RK h h2 := by
  obtain ⟨x1, x2, x3, x4, x5, x6, x7, x8, x9, x10⟩ := x
  obtain ⟨y1, y2, y3, y4, y5, y6, y7, y8, y9, y10⟩ := y
  exact ⟨y1.trans x1, y2.trans x2, y3.trans x3, y4.trans x4, y5.trans x5, y6.trans x6, fun o ho => (y7 o ho).trans (x7 o ho), fun o h1 h2 => (y8 o h1 h2).trans (x8 o h1 h2), y9.trans x9, y10.trans x10⟩
theorem RK.fx {A : Nat → Nat → Prop} {h h1 : aH} (x : Fx A h h1) (hA : ∀ o k, A o k → 412 ≤ o ∧ (o < 436 ∨ 456 ≤ o) ∧ (o = 412 → k ≠ 31 ∧ k ≠ 32)) : RK h h1 := by
  obtain ⟨x1, x2, x3, x4, x5, x6, x7⟩ := x
  exact ⟨x1, x2, x3, x4, x5, x6, fun o ho => funext fun k => x7 o k (fun q => by have := hA o k q; omega), fun o q1 q2 => funext fun k => x7 o k (fun q => by have := hA o k q; omega), x7 _ _ (fun q => by have := (hA _ _ q).2.2 rfl; omega), x7 _ _ (fun q => by have := (hA _ _ q).2.2 rfl; omega)⟩
theorem RK.fr {A : Nat → Prop} {h h1 : aH} (x : Fr A h h1) (hA : ∀ o, A o → 413 ≤ o ∧ (o < 436 ∨ 456 ≤ o)) : RK h h1 := RK.fx x.fx (fun o k q => by have := hA o q; omega)
theorem RK.rz {x : Int32} : RK h (h_si h 412 0 x) := RK.fx (A := fun o k => o = 412 ∧ k = 0) (Fx.si ⟨rfl, rfl⟩) (fun o k q => by omega)
theorem RK.sh {h h1 : aH} (x : RK h h1) (hS : Sh h) : Sh h1 := by
  obtain ⟨x1, x2, x3, x4, x5, -⟩ := x
  refine ⟨?_, fun q hq => ?_, fun q hq => ?_⟩
  · rw [x1]; exact hS.1
  · rw [x3, x4]; exact hS.2.1 q hq
  · rw [x5]; exact hS.2.2 q hq
theorem IC.go {h1 : aH} (I : IC h T P Q) (x : RK h h1) : IC h1 T P Q := by
  obtain ⟨a1, a2, a3, a4, a6, a7, a8, a9, a10, a11, a12, a13, a14, a15⟩ := I
  have S1 := x.sh a1
  obtain ⟨x1, x2, x3, x4, x5, x6, x7, x8, x9, x10⟩ := x
  have pin : 4 ≤ P ∧ P + 65 ≤ 134 := by omega
  have stk : ∀ {a : Nat} {S : Nat → Nat}, (a + 18 ≤ 412) → StR h a P T S → StR h1 a P T S := fun {a S} ha y => y.keep (fun o q1 q2 => x7 o (by omega)) (by rw [x5])
  refine ⟨S1, a2, by rw [x5]; exact a3, by rw [x5]; exact a4, a6, a7.keep (fun o q1 q2 => x7 o (by omega)) a6, a8, stk (by decide) a9, by rw [x7 _ (by decide)]; exact a10, by rw [x5]; exact a11, by rw [x5]; exact a12, fun i hi => ?_, fun s hs => ?_, ?_⟩
  · obtain ⟨m, m1, m2⟩ := a11 i (by omega)
    rw [x5]
    exact ⟨(a13 i hi).1, stk (by omega) (a13 i hi).2⟩
  · obtain ⟨b1, b2, b3⟩ := a14 s hs
    exact ⟨by rw [x7 _ (by decide)]; exact b1, b2, fun e => ⟨(b3 e).1, stk (by omega) (b3 e).2⟩⟩
  · rw [x7 _ (by decide), x7 _ (by decide)]; exact a15
theorem CK.z {c : Nat} {h1 : aH} (x : CK c h h1) (z : RefR h T) : RefR h1 T := ⟨fun o k q => by rw [x.2.2.2.2.1 o (Or.inr (by unfold rfC at q; omega))]; exact z.1 o k q, z.2⟩
theorem nmO_lt (hD : PlD T) (hP : P ∈ plL) {s i : Nat} (hi : i < nmN T s) : nmO P s i < 134 := by
  have e1 := hD.nP
  have e2 := hD.nG
  have e3 := hD.nE
  have e4 := hD.nK
  have p := pl_in P hP
  unfold nmN at hi
  unfold nmO
  split
  · rw [if_pos ‹_›] at hi; omega
  · rw [if_neg ‹_›] at hi
    split
    · rw [if_pos ‹_›] at hi; omega
    · rw [if_neg ‹_›] at hi
      split
      · rw [if_pos ‹_›] at hi; omega
      · rw [if_neg ‹_›] at hi; omega
/-- both made the same change -/
theorem IV.chg {c : Nat} {T' : Nat → Nat → Nat} (I : IV h T P Q) {h1 h2 : aH} (x : CK c h h1) (J : IC h1 T' P Q) (y : RK h1 h2) (z : RefR h2 T') (hT : ∀ s, nmN T' s = nmN T s) : IV h2 T' P Q := by
  obtain ⟨b1, b2, b3, b4, b6, b7, b8, b9, b10, b11, b12, b13, b14, b15⟩ := J.go y
  refine ⟨b1, b2, b3, b4, z, b6, b7, b8, b9, b10, b11, b12, b13, b14, b15, ?_, ?_, fun o k q1 q2 q3 => ?_⟩
  · obtain ⟨x1, x2, x3, x4, x5, x6, x7⟩ := x
    obtain ⟨y1, y2, y3, y4, y5, y6, y7, y8, y9, y10⟩ := y
    rw [y7 _ (by decide), y9, y10, x5 _ (by decide), x5 _ (by decide)]
    exact I.er
  · obtain ⟨W, L, hW⟩ := I.nm.1
    refine ⟨W, L, fun s i hs hi => ?_⟩
    rw [hT] at hi
    have hb := nmO_lt I.D I.hP hi
    rw [y.2.2.2.2.2.1, x.2.2.2.2.2.2 _ _ (by omega), x.2.2.2.2.2.2 _ _ (by omega)]
    exact hW s i hs hi
  · rw [y.2.2.2.2.2.2.2.1 o q1 q2, x.2.2.2.2.1 o (by omega)]
    exact I.nm.2 o k q1 q2 q3
theorem qg_chg {x : Option (Int32 × aH)} {y : aH → Option (Int32 × aH)} {T' : Nat → Nat → Nat} (I : IV h T P Q) (v : Int32) (hT : ∀ s, nmN T' s = nmN T s)
    (hx : OK x (fun r h1 => r = nI 0 ∧ h_lv h1 462 0 = v.toInt64 ∧ CK 2 h h1 ∧ IC h1 T' P Q))
    (hy : ∀ h1, Sh h1 → RefR h1 T → OK (y h1) (fun b h2 => b = v ∧ h_iv h2 412 0 = nI 0 ∧ RK h1 h2 ∧ RefR h2 T')) : QG h x y := by
  obtain ⟨r, h1, e1, q1, q2, q3, q4⟩ := hx
  obtain ⟨b, h2, e2, q5, q6, q7, q8⟩ := hy h1 q4.sh (q3.z I.z)
  refine ⟨0, v, by decide, r, h1, e1, q1, fun _ => q2, b, h2, e2, fun _ => q5, q6, by rw [q7.2.2.2.2.2.1], ⟨T', P, Q, I.chg q3 q4 q7 q8 hT⟩, ?_, ?_⟩
  · have := q3.2.1
    rw [q7.1]; omega
  · have := q3.2.2.1
    rw [q7.2.1]; omega
end
/-! a state is copied -/
def FL : List (Nat × Nat) := [(0, 1), (0, 5), (0, 13), (11, 0), (11, 2)]
def AL : List (Nat × Nat) := [(1, 12), (2, 12), (3, 12), (4, 144), (5, 48), (6, 6), (7, 18), (8, 18), (9, 5), (10, 5), (12, 16), (13, 16), (14, 16), (15, 80), (16, 80), (17, 80)]
theorem StR.move {h h1 : aH} {a b P : Nat} {T : Nat → Nat → Nat} {S : Nat → Nat} (hD : PlD T) (hR : RwD T S) (x : StR h a P T S) (hr : h_rv h1 b 0 = P) (F : ∀ q ∈ FL, h_iv h1 (b + q.1) q.2 = h_iv h (a + q.1) q.2) (A : ∀ q ∈ AL, ∀ k, k < q.2 → h_iv h1 (b + q.1) k = h_iv h (a + q.1) k) : StR h1 b P T S := by
  have d0 := hD.nP
  have d1 := hD.nG
  have d2 := hD.nE
  have r1 := hR.many
  have A1 : ∀ k, k < 12 → h_iv h1 (b + 1) k = h_iv h (a + 1) k := A (1, 12) (by decide)
  have A2 : ∀ k, k < 12 → h_iv h1 (b + 2) k = h_iv h (a + 2) k := A (2, 12) (by decide)
  have A3 : ∀ k, k < 12 → h_iv h1 (b + 3) k = h_iv h (a + 3) k := A (3, 12) (by decide)
  have A4 : ∀ k, k < 144 → h_iv h1 (b + 4) k = h_iv h (a + 4) k := A (4, 144) (by decide)
  have A5 : ∀ k, k < 48 → h_iv h1 (b + 5) k = h_iv h (a + 5) k := A (5, 48) (by decide)
  have A6 : ∀ k, k < 6 → h_iv h1 (b + 6) k = h_iv h (a + 6) k := A (6, 6) (by decide)
  have A7 : ∀ k, k < 18 → h_iv h1 (b + 7) k = h_iv h (a + 7) k := A (7, 18) (by decide)
  have A8 : ∀ k, k < 18 → h_iv h1 (b + 8) k = h_iv h (a + 8) k := A (8, 18) (by decide)
  have A9 : ∀ k, k < 5 → h_iv h1 (b + 9) k = h_iv h (a + 9) k := A (9, 5) (by decide)
  have A10 : ∀ k, k < 5 → h_iv h1 (b + 10) k = h_iv h (a + 10) k := A (10, 5) (by decide)
  have A12 : ∀ k, k < 16 → h_iv h1 (b + 12) k = h_iv h (a + 12) k := A (12, 16) (by decide)
  have A13 : ∀ k, k < 16 → h_iv h1 (b + 13) k = h_iv h (a + 13) k := A (13, 16) (by decide)
  have A14 : ∀ k, k < 16 → h_iv h1 (b + 14) k = h_iv h (a + 14) k := A (14, 16) (by decide)
  have A15 : ∀ k, k < 80 → h_iv h1 (b + 15) k = h_iv h (a + 15) k := A (15, 80) (by decide)
  have A16 : ∀ k, k < 80 → h_iv h1 (b + 16) k = h_iv h (a + 16) k := A (16, 80) (by decide)
  have A17 : ∀ k, k < 80 → h_iv h1 (b + 17) k = h_iv h (a + 17) k := A (17, 80) (by decide)
  have Ftm : h_iv h1 (b + 0) 1 = h_iv h (a + 0) 1 := F (0, 1) (by decide)
  have Fexc : h_iv h1 (b + 0) 5 = h_iv h (a + 0) 5 := F (0, 5) (by decide)
  have Fsrv : h_iv h1 (b + 0) 13 = h_iv h (a + 0) 13 := F (0, 13) (by decide)
  have Fmany : h_iv h1 (b + 11) 0 = h_iv h (a + 11) 0 := F (11, 0) (by decide)
  have Fans : h_iv h1 (b + 11) 2 = h_iv h (a + 11) 2 := F (11, 2) (by decide)
  refine ⟨?_, ?_, ?_, ?_, ?_, ?_, ?_, ?_, ?_, ?_, ?_, ?_, ?_, ?_, ?_, ?_, ?_, ?_, ?_, ?_, ?_, ?_⟩
  · exact hr
  · exact Ftm.trans x.tm
  · intro p hp; rw [A1 _ (by omega)]; exact x.lost p hp
  · intro p hp; rw [A2 _ (by omega)]; exact x.out p hp
  · intro p hp; rw [A3 _ (by omega)]; exact x.paid p hp
  · obtain ⟨X, x1, x2⟩ := x.exc
    exact ⟨X, Fexc.trans x1, x2⟩
  · intro p hp q hq; rw [A4 _ (by omega)]; exact x.tr p hp q hq
  · intro g hg q hq
    have := hD.plc g hg
    rw [A5 _ (by omega)]; exact x.rot g hg q hq
  · intro p hp; rw [A6 _ (by omega)]; exact x.hn p hp
  · intro g hg k hk
    have := hR.hn g hg
    rw [A7 _ (by omega)]; exact x.to g hg k hk
  · intro g hg k hk
    have := hR.hn g hg
    rw [A8 _ (by omega)]; exact x.en g hg k hk
  · intro p hp; rw [A9 _ (by omega)]; exact x.ret p hp
  · intro g hg hq; rw [A10 _ (by omega)]; exact x.crew g hg hq
  · obtain ⟨X, x1, x2⟩ := x.srv
    exact ⟨X, Fsrv.trans x1, x2⟩
  · exact Fmany.trans x.many
  · intro c hc; rw [A12 _ (by omega)]; exact x.cost c hc
  · obtain ⟨X, x1, x2⟩ := x.ans
    exact ⟨X, Fans.trans x1, x2⟩
  · intro c hc; rw [A13 _ (by omega)]; exact x.came c hc
  · intro c hc; rw [A14 _ (by omega)]; exact x.left c hc
  · intro c hc i hi
    have := hR.left c hc
    rw [A15 _ (by omega)]; exact x.leng c hc i hi
  · intro c hc i hi
    have := hR.left c hc
    rw [A16 _ (by omega)]; exact x.ltim c hc i hi
  · intro c hc i hi
    have := hR.left c hc
    rw [A17 _ (by omega)]; exact x.lcrw c hc i hi
theorem stA : ∀ a ∈ stL, ∀ q ∈ AL, (a + q.1, 1, q.2) ∈ shL := by decide +kernel
theorem st_dis : ∀ a ∈ stL, ∀ b ∈ stL, a ≠ b → a + 18 ≤ b ∨ b + 18 ≤ a := by decide +kernel
/-- the state b, and nothing else -/
def Cq (b : Nat) (h h1 : aH) : Prop := h_nx h1 = h_nx h ∧ h_sl h1 = h_sl h ∧ h_sh h1 = h_sh h ∧ h_ln h1 = h_ln h ∧ h_lv h1 = h_lv h ∧ (∀ o, ¬ (b ≤ o ∧ o < b + 18) → h_iv h1 o = h_iv h o) ∧ ∀ o k, ¬ (o = b ∧ k = 0) → h_rv h1 o k = h_rv h o k
def Cz (a b : Nat) (h h1 : aH) (F L : List (Nat × Nat)) : Prop := Sh h1 ∧ Cq b h h1 ∧ (∀ q ∈ F, h_iv h1 (b + q.1) q.2 = h_iv h (a + q.1) q.2) ∧ (∀ q ∈ L, ∀ k, k < q.2 → h_iv h1 (b + q.1) k = h_iv h (a + q.1) k) ∧ h_rv h1 b 0 = h_rv h a 0
section
variable {h h1 : aH} {a b P : Nat} {T : Nat → Nat → Nat} {S : Nat → Nat} {F L : List (Nat × Nat)}
theorem Cq.rv {b : Nat} {h h1 : aH} (x : Cq b h h1) {A : Nat → Prop} {h2 : aH} (y : Fr A h1 h2) (hA : ∀ o, A o → b ≤ o ∧ o < b + 18) : Cq b h h2 := by
  obtain ⟨x1, x2, x3, x4, x5, x6, x7⟩ := x
  obtain ⟨y1, y2, y3, y4, y5, y6, y7⟩ := y
  exact ⟨y1.trans x1, y2.trans x2, y3.trans x3, y4.trans x4, y6.trans x5, fun o ho => (y7 o (fun q => ho (hA o q))).trans (x6 o ho), fun o k hk => by rw [y5]; exact x7 o k hk⟩
theorem cz_arr (z : Cz a b h h1 F L) (hS : Sh h) (ha : a ∈ stL) (hb : b ∈ stL) (hne : a ≠ b) {off n : Nat} (hm : (off, n) ∈ AL) (hF : ∀ q ∈ F, q.1 ≠ off) (hL : ∀ q ∈ L, q.1 ≠ off) : OK (m_X11_copyAll (a + off) (b + off) h1) (fun _ h2 => Cz a b h h2 F ((off, n) :: L)) := by
  obtain ⟨z1, z2, z3, z4, z5⟩ := z
  have mal : ∀ q ∈ AL, q.1 < 18 ∧ q.2 < 100 + 100 := by decide
  have mo := mal _ hm
  have ra := z1.2.1 _ (stA a ha _ hm)
  have rb := z1.2.1 _ (stA b hb _ hm)
  have ds := st_dis a ha b hb hne
  refine ok_mono (k_copyAll (n := n) ra.1 (ra.2 (show (1 : Nat) < 10 by decide)) rb.1 (rb.2 (show (1 : Nat) < 10 by decide)) (by have := mo.2; omega)) (fun _ h2 hh => ?_)
  obtain ⟨f1, f2⟩ := hh
  have mo1 := mo.1
  have sa : h_iv h1 (a + off) = h_iv h (a + off) := z2.2.2.2.2.2.1 _ (by show ¬ (b ≤ a + off ∧ a + off < b + 18); omega)
  refine ⟨f1.sh z1, z2.rv f1 (fun o q => by rw [q]; show b ≤ b + off ∧ b + off < b + 18; omega), fun q hq => ?_, fun q hq k hk => ?_, by rw [f1.rv]; exact z5⟩
  · have := hF q hq
    rw [f1.iv (by show ¬ b + q.1 = b + off; omega)]; exact z3 q hq
  · by_cases e : q.1 = off
    · rcases List.mem_cons.mp hq with e2 | e2
      · rw [e2] at hk ⊢
        rw [← sa]; exact f2 k hk
      · exact absurd e (hL q e2)
    · rcases List.mem_cons.mp hq with e2 | e2
      · rw [e2] at e; exact absurd rfl e
      · rw [f1.iv (by show ¬ b + q.1 = b + off; omega)]; exact z4 q e2 k hk
theorem cz_fld (z : Cz a b h h1 F L) {off k : Nat} (ho : off < 18) (hL : ∀ q ∈ L, q.1 ≠ off) : Cz a b h (h_si h1 (b + off) k (h_iv h (a + off) k)) ((off, k) :: F) L := by
  obtain ⟨z1, z2, z3, z4, z5⟩ := z
  refine ⟨z1.si _ _ _, z2.rv (A := fun o => o = b + off) (Fr.si rfl) (fun o q => by omega), fun q hq => ?_, fun q hq j hj => ?_, z5⟩
  · by_cases e : q.1 = off ∧ q.2 = k
    · rw [e.1, e.2, si_at]
    · rcases List.mem_cons.mp hq with e2 | e2
      · exact absurd ⟨by rw [e2], by rw [e2]⟩ e
      · rw [si_ne (by omega)]; exact z3 q e2
  · have := hL q hq
    rw [si_ne (by omega)]; exact z4 q hq j hj
theorem cz_src (z : Cz a b h h1 F L) (ha : a ∈ stL) (hb : b ∈ stL) (hne : a ≠ b) {off : Nat} (ho : off < 18) : h_iv h1 (a + off) = h_iv h (a + off) := z.2.1.2.2.2.2.2.1 _ (by have ds := st_dis a ha b hb hne; show ¬ (b ≤ a + off ∧ a + off < b + 18); omega)
theorem k_copyFrom (hS : Sh h) (ha : a ∈ stL) (hb : b ∈ stL) (hne : a ≠ b) (hP : P ∈ plL) (x : StR h a P T S) (hD : PlD T) (hR : RwD T S) : OK (m_X10_copyFrom b a h) (fun _ h2 => Sh h2 ∧ Cq b h h2 ∧ StR h2 b P T S) := by
  have np : ∀ q ∈ ptL, ¬ (q.1 = b ∧ q.2.1 = 0) := by
    have hd : ∀ b ∈ stL, ∀ q ∈ ptL, ¬ (q.1 = b ∧ q.2.1 = 0) := by decide +kernel
    exact hd b hb
  have S0 : Sh (h_sr h b 0 P) := hS.sr _ _ _ np
  have w0 : gr h 10 a 0 = some P := k_plan hS ha hP x
  have w1 : pr h 10 b 0 P = some (h_sr h b 0 P) := pr_ok (s_cS hS hb) (pl_ne0 P hP)
  have z0 : Cz a b h (h_sr h b 0 P) [] [] := ⟨S0, ⟨rfl, rfl, rfl, rfl, rfl, fun _ _ => rfl, fun o k hk => u2n hk⟩, fun q hq => absurd hq List.not_mem_nil, fun q hq => absurd hq List.not_mem_nil, (show up2 (h_rv h) b 0 P b 0 = h_rv h a 0 from (if_pos ⟨rfl, rfl⟩).trans x.pl.symm)⟩
  simp only [m_X10_copyFrom, bO_v, bR_v, bX_l, bX_r, bC_l, bC_r, aLet_v, nI_add, pk_mul, dvI_n, rmI_n, iMax_n, iMin_n, zO_0, zO_1, li_0, li_1, li_2, li_3, li_4, li_5, li_6, li_7, li_8, li_9, li_10, li_12, li_14, li_15, li_16, li_18, li_19, li_20, li_22, li_23, li_24, li_26, li_29, li_30, li_31, li_32, li_36, li_38, li_48, li_50, li_57, li_58, li_59, li_60, li_63, li_97, li_99, li_120, li_122, li_144, li_168, li_194, li_240, li_255, li_284, li_299, li_603, li_999, li_1200, li_1440, li_4095, li_4096, li_6030, li_16384, li_20160, zl0, zl1, zl2, zl3, zl4, ze01, ze02, ze03, ze04, ze10, ze12, ze13, ze14, ze20, ze21, ze23, ze24, ze30, ze31, ze32, ze34, ze40, ze41, ze42, ze43, zt0, zt1, zt2, zt3, zt4, zq0, zq1, zq2, zq3, zq4, it_t, it_f, Bool.true_eq_false, Bool.false_eq_true, na5, na4, na1441, na2, na10, sx_IOIA, sx_IOIS, sx_IONS, sx_IAIO, sx_IAIS, sx_IANS, sx_ISIO, sx_ISIA, sx_ISNS, sx_NSIO, sx_NSIA, sx_NSIS, w0, w1]
  generalize h_sr h b 0 P = g0 at z0 ⊢
  have e0 : h_iv g0 a = h_iv h a := cz_src z0 ha hb hne (off := 0) (by decide)
  simp (maxSteps := 3000000) (disch := first | assumption | omega) only [bO_v, bR_v, bX_l, bX_r, bC_l, bC_r, aLet_v, nI_add, pk_mul, dvI_n, rmI_n, iMax_n, iMin_n, zO_0, zO_1, li_0, li_1, li_2, li_3, li_4, li_5, li_6, li_7, li_8, li_9, li_10, li_12, li_14, li_15, li_16, li_18, li_19, li_20, li_22, li_23, li_24, li_26, li_29, li_30, li_31, li_32, li_36, li_38, li_48, li_50, li_57, li_58, li_59, li_60, li_63, li_97, li_99, li_120, li_122, li_144, li_168, li_194, li_240, li_255, li_284, li_299, li_603, li_999, li_1200, li_1440, li_4095, li_4096, li_6030, li_16384, li_20160, zl0, zl1, zl2, zl3, zl4, ze01, ze02, ze03, ze04, ze10, ze12, ze13, ze14, ze20, ze21, ze23, ze24, ze30, ze31, ze32, ze34, ze40, ze41, ze42, ze43, zt0, zt1, zt2, zt3, zt4, zq0, zq1, zq2, zq3, zq4, it_t, it_f, Bool.true_eq_false, Bool.false_eq_true, na5, na4, na1441, na2, na10, sx_IOIA, sx_IOIS, sx_IONS, sx_IAIO, sx_IAIS, sx_IANS, sx_ISIO, sx_ISIA, sx_ISNS, sx_NSIO, sx_NSIA, sx_NSIS, s_cS_gi z0.1 ha, s_cS_pi z0.1 hb, e0]
  have z1 : Cz a b h (h_si g0 b 1 (h_iv h a 1)) _ _ := cz_fld z0 (off := 0) (k := 1) (by decide) (by decide)
  generalize h_si g0 b 1 (h_iv h a 1) = g1 at z1 ⊢
  simp (maxSteps := 3000000) (disch := first | assumption | omega) only [bO_v, bR_v, bX_l, bX_r, bC_l, bC_r, aLet_v, nI_add, pk_mul, dvI_n, rmI_n, iMax_n, iMin_n, zO_0, zO_1, li_0, li_1, li_2, li_3, li_4, li_5, li_6, li_7, li_8, li_9, li_10, li_12, li_14, li_15, li_16, li_18, li_19, li_20, li_22, li_23, li_24, li_26, li_29, li_30, li_31, li_32, li_36, li_38, li_48, li_50, li_57, li_58, li_59, li_60, li_63, li_97, li_99, li_120, li_122, li_144, li_168, li_194, li_240, li_255, li_284, li_299, li_603, li_999, li_1200, li_1440, li_4095, li_4096, li_6030, li_16384, li_20160, zl0, zl1, zl2, zl3, zl4, ze01, ze02, ze03, ze04, ze10, ze12, ze13, ze14, ze20, ze21, ze23, ze24, ze30, ze31, ze32, ze34, ze40, ze41, ze42, ze43, zt0, zt1, zt2, zt3, zt4, zq0, zq1, zq2, zq3, zq4, it_t, it_f, Bool.true_eq_false, Bool.false_eq_true, na5, na4, na1441, na2, na10, sx_IOIA, sx_IOIS, sx_IONS, sx_IAIO, sx_IAIS, sx_IANS, sx_ISIO, sx_ISIA, sx_ISNS, sx_NSIO, sx_NSIA, sx_NSIS, s_plost z1.1 ha, s_plost z1.1 hb]
  refine ok_bR (cz_arr z1 hS ha hb hne (off := 1) (n := 12) (by decide) (by decide) (by decide)) (fun _ g2 z2 => ?_)
  simp (maxSteps := 3000000) (disch := first | assumption | omega) only [bO_v, bR_v, bX_l, bX_r, bC_l, bC_r, aLet_v, nI_add, pk_mul, dvI_n, rmI_n, iMax_n, iMin_n, zO_0, zO_1, li_0, li_1, li_2, li_3, li_4, li_5, li_6, li_7, li_8, li_9, li_10, li_12, li_14, li_15, li_16, li_18, li_19, li_20, li_22, li_23, li_24, li_26, li_29, li_30, li_31, li_32, li_36, li_38, li_48, li_50, li_57, li_58, li_59, li_60, li_63, li_97, li_99, li_120, li_122, li_144, li_168, li_194, li_240, li_255, li_284, li_299, li_603, li_999, li_1200, li_1440, li_4095, li_4096, li_6030, li_16384, li_20160, zl0, zl1, zl2, zl3, zl4, ze01, ze02, ze03, ze04, ze10, ze12, ze13, ze14, ze20, ze21, ze23, ze24, ze30, ze31, ze32, ze34, ze40, ze41, ze42, ze43, zt0, zt1, zt2, zt3, zt4, zq0, zq1, zq2, zq3, zq4, it_t, it_f, Bool.true_eq_false, Bool.false_eq_true, na5, na4, na1441, na2, na10, sx_IOIA, sx_IOIS, sx_IONS, sx_IAIO, sx_IAIS, sx_IANS, sx_ISIO, sx_ISIA, sx_ISNS, sx_NSIO, sx_NSIA, sx_NSIS, s_pout z2.1 ha, s_pout z2.1 hb]
  refine ok_bR (cz_arr z2 hS ha hb hne (off := 2) (n := 12) (by decide) (by decide) (by decide)) (fun _ g3 z3 => ?_)
  simp (maxSteps := 3000000) (disch := first | assumption | omega) only [bO_v, bR_v, bX_l, bX_r, bC_l, bC_r, aLet_v, nI_add, pk_mul, dvI_n, rmI_n, iMax_n, iMin_n, zO_0, zO_1, li_0, li_1, li_2, li_3, li_4, li_5, li_6, li_7, li_8, li_9, li_10, li_12, li_14, li_15, li_16, li_18, li_19, li_20, li_22, li_23, li_24, li_26, li_29, li_30, li_31, li_32, li_36, li_38, li_48, li_50, li_57, li_58, li_59, li_60, li_63, li_97, li_99, li_120, li_122, li_144, li_168, li_194, li_240, li_255, li_284, li_299, li_603, li_999, li_1200, li_1440, li_4095, li_4096, li_6030, li_16384, li_20160, zl0, zl1, zl2, zl3, zl4, ze01, ze02, ze03, ze04, ze10, ze12, ze13, ze14, ze20, ze21, ze23, ze24, ze30, ze31, ze32, ze34, ze40, ze41, ze42, ze43, zt0, zt1, zt2, zt3, zt4, zq0, zq1, zq2, zq3, zq4, it_t, it_f, Bool.true_eq_false, Bool.false_eq_true, na5, na4, na1441, na2, na10, sx_IOIA, sx_IOIS, sx_IONS, sx_IAIO, sx_IAIS, sx_IANS, sx_ISIO, sx_ISIA, sx_ISNS, sx_NSIO, sx_NSIA, sx_NSIS, s_ppaid z3.1 ha, s_ppaid z3.1 hb]
  refine ok_bR (cz_arr z3 hS ha hb hne (off := 3) (n := 12) (by decide) (by decide) (by decide)) (fun _ g4 z4 => ?_)
  have e4 : h_iv g4 a = h_iv h a := cz_src z4 ha hb hne (off := 0) (by decide)
  simp (maxSteps := 3000000) (disch := first | assumption | omega) only [bO_v, bR_v, bX_l, bX_r, bC_l, bC_r, aLet_v, nI_add, pk_mul, dvI_n, rmI_n, iMax_n, iMin_n, zO_0, zO_1, li_0, li_1, li_2, li_3, li_4, li_5, li_6, li_7, li_8, li_9, li_10, li_12, li_14, li_15, li_16, li_18, li_19, li_20, li_22, li_23, li_24, li_26, li_29, li_30, li_31, li_32, li_36, li_38, li_48, li_50, li_57, li_58, li_59, li_60, li_63, li_97, li_99, li_120, li_122, li_144, li_168, li_194, li_240, li_255, li_284, li_299, li_603, li_999, li_1200, li_1440, li_4095, li_4096, li_6030, li_16384, li_20160, zl0, zl1, zl2, zl3, zl4, ze01, ze02, ze03, ze04, ze10, ze12, ze13, ze14, ze20, ze21, ze23, ze24, ze30, ze31, ze32, ze34, ze40, ze41, ze42, ze43, zt0, zt1, zt2, zt3, zt4, zq0, zq1, zq2, zq3, zq4, it_t, it_f, Bool.true_eq_false, Bool.false_eq_true, na5, na4, na1441, na2, na10, sx_IOIA, sx_IOIS, sx_IONS, sx_IAIO, sx_IAIS, sx_IANS, sx_ISIO, sx_ISIA, sx_ISNS, sx_NSIO, sx_NSIA, sx_NSIS, s_cS_gi z4.1 ha, s_cS_pi z4.1 hb, e4]
  have z5 : Cz a b h (h_si g4 b 5 (h_iv h a 5)) _ _ := cz_fld z4 (off := 0) (k := 5) (by decide) (by decide)
  generalize h_si g4 b 5 (h_iv h a 5) = g5 at z5 ⊢
  simp (maxSteps := 3000000) (disch := first | assumption | omega) only [bO_v, bR_v, bX_l, bX_r, bC_l, bC_r, aLet_v, nI_add, pk_mul, dvI_n, rmI_n, iMax_n, iMin_n, zO_0, zO_1, li_0, li_1, li_2, li_3, li_4, li_5, li_6, li_7, li_8, li_9, li_10, li_12, li_14, li_15, li_16, li_18, li_19, li_20, li_22, li_23, li_24, li_26, li_29, li_30, li_31, li_32, li_36, li_38, li_48, li_50, li_57, li_58, li_59, li_60, li_63, li_97, li_99, li_120, li_122, li_144, li_168, li_194, li_240, li_255, li_284, li_299, li_603, li_999, li_1200, li_1440, li_4095, li_4096, li_6030, li_16384, li_20160, zl0, zl1, zl2, zl3, zl4, ze01, ze02, ze03, ze04, ze10, ze12, ze13, ze14, ze20, ze21, ze23, ze24, ze30, ze31, ze32, ze34, ze40, ze41, ze42, ze43, zt0, zt1, zt2, zt3, zt4, zq0, zq1, zq2, zq3, zq4, it_t, it_f, Bool.true_eq_false, Bool.false_eq_true, na5, na4, na1441, na2, na10, sx_IOIA, sx_IOIS, sx_IONS, sx_IAIO, sx_IAIS, sx_IANS, sx_ISIO, sx_ISIA, sx_ISNS, sx_NSIO, sx_NSIA, sx_NSIS, s_ptrust z5.1 ha, s_ptrust z5.1 hb]
  refine ok_bR (cz_arr z5 hS ha hb hne (off := 4) (n := 144) (by decide) (by decide) (by decide)) (fun _ g6 z6 => ?_)
  simp (maxSteps := 3000000) (disch := first | assumption | omega) only [bO_v, bR_v, bX_l, bX_r, bC_l, bC_r, aLet_v, nI_add, pk_mul, dvI_n, rmI_n, iMax_n, iMin_n, zO_0, zO_1, li_0, li_1, li_2, li_3, li_4, li_5, li_6, li_7, li_8, li_9, li_10, li_12, li_14, li_15, li_16, li_18, li_19, li_20, li_22, li_23, li_24, li_26, li_29, li_30, li_31, li_32, li_36, li_38, li_48, li_50, li_57, li_58, li_59, li_60, li_63, li_97, li_99, li_120, li_122, li_144, li_168, li_194, li_240, li_255, li_284, li_299, li_603, li_999, li_1200, li_1440, li_4095, li_4096, li_6030, li_16384, li_20160, zl0, zl1, zl2, zl3, zl4, ze01, ze02, ze03, ze04, ze10, ze12, ze13, ze14, ze20, ze21, ze23, ze24, ze30, ze31, ze32, ze34, ze40, ze41, ze42, ze43, zt0, zt1, zt2, zt3, zt4, zq0, zq1, zq2, zq3, zq4, it_t, it_f, Bool.true_eq_false, Bool.false_eq_true, na5, na4, na1441, na2, na10, sx_IOIA, sx_IOIS, sx_IONS, sx_IAIO, sx_IAIS, sx_IANS, sx_ISIO, sx_ISIA, sx_ISNS, sx_NSIO, sx_NSIA, sx_NSIS, s_prot z6.1 ha, s_prot z6.1 hb]
  refine ok_bR (cz_arr z6 hS ha hb hne (off := 5) (n := 48) (by decide) (by decide) (by decide)) (fun _ g7 z7 => ?_)
  simp (maxSteps := 3000000) (disch := first | assumption | omega) only [bO_v, bR_v, bX_l, bX_r, bC_l, bC_r, aLet_v, nI_add, pk_mul, dvI_n, rmI_n, iMax_n, iMin_n, zO_0, zO_1, li_0, li_1, li_2, li_3, li_4, li_5, li_6, li_7, li_8, li_9, li_10, li_12, li_14, li_15, li_16, li_18, li_19, li_20, li_22, li_23, li_24, li_26, li_29, li_30, li_31, li_32, li_36, li_38, li_48, li_50, li_57, li_58, li_59, li_60, li_63, li_97, li_99, li_120, li_122, li_144, li_168, li_194, li_240, li_255, li_284, li_299, li_603, li_999, li_1200, li_1440, li_4095, li_4096, li_6030, li_16384, li_20160, zl0, zl1, zl2, zl3, zl4, ze01, ze02, ze03, ze04, ze10, ze12, ze13, ze14, ze20, ze21, ze23, ze24, ze30, ze31, ze32, ze34, ze40, ze41, ze42, ze43, zt0, zt1, zt2, zt3, zt4, zq0, zq1, zq2, zq3, zq4, it_t, it_f, Bool.true_eq_false, Bool.false_eq_true, na5, na4, na1441, na2, na10, sx_IOIA, sx_IOIS, sx_IONS, sx_IAIO, sx_IAIS, sx_IANS, sx_ISIO, sx_ISIA, sx_ISNS, sx_NSIO, sx_NSIA, sx_NSIS, s_phands z7.1 ha, s_phands z7.1 hb]
  refine ok_bR (cz_arr z7 hS ha hb hne (off := 6) (n := 6) (by decide) (by decide) (by decide)) (fun _ g8 z8 => ?_)
  simp (maxSteps := 3000000) (disch := first | assumption | omega) only [bO_v, bR_v, bX_l, bX_r, bC_l, bC_r, aLet_v, nI_add, pk_mul, dvI_n, rmI_n, iMax_n, iMin_n, zO_0, zO_1, li_0, li_1, li_2, li_3, li_4, li_5, li_6, li_7, li_8, li_9, li_10, li_12, li_14, li_15, li_16, li_18, li_19, li_20, li_22, li_23, li_24, li_26, li_29, li_30, li_31, li_32, li_36, li_38, li_48, li_50, li_57, li_58, li_59, li_60, li_63, li_97, li_99, li_120, li_122, li_144, li_168, li_194, li_240, li_255, li_284, li_299, li_603, li_999, li_1200, li_1440, li_4095, li_4096, li_6030, li_16384, li_20160, zl0, zl1, zl2, zl3, zl4, ze01, ze02, ze03, ze04, ze10, ze12, ze13, ze14, ze20, ze21, ze23, ze24, ze30, ze31, ze32, ze34, ze40, ze41, ze42, ze43, zt0, zt1, zt2, zt3, zt4, zq0, zq1, zq2, zq3, zq4, it_t, it_f, Bool.true_eq_false, Bool.false_eq_true, na5, na4, na1441, na2, na10, sx_IOIA, sx_IOIS, sx_IONS, sx_IAIO, sx_IAIS, sx_IANS, sx_ISIO, sx_ISIA, sx_ISNS, sx_NSIO, sx_NSIA, sx_NSIS, s_pto z8.1 ha, s_pto z8.1 hb]
  refine ok_bR (cz_arr z8 hS ha hb hne (off := 7) (n := 18) (by decide) (by decide) (by decide)) (fun _ g9 z9 => ?_)
  simp (maxSteps := 3000000) (disch := first | assumption | omega) only [bO_v, bR_v, bX_l, bX_r, bC_l, bC_r, aLet_v, nI_add, pk_mul, dvI_n, rmI_n, iMax_n, iMin_n, zO_0, zO_1, li_0, li_1, li_2, li_3, li_4, li_5, li_6, li_7, li_8, li_9, li_10, li_12, li_14, li_15, li_16, li_18, li_19, li_20, li_22, li_23, li_24, li_26, li_29, li_30, li_31, li_32, li_36, li_38, li_48, li_50, li_57, li_58, li_59, li_60, li_63, li_97, li_99, li_120, li_122, li_144, li_168, li_194, li_240, li_255, li_284, li_299, li_603, li_999, li_1200, li_1440, li_4095, li_4096, li_6030, li_16384, li_20160, zl0, zl1, zl2, zl3, zl4, ze01, ze02, ze03, ze04, ze10, ze12, ze13, ze14, ze20, ze21, ze23, ze24, ze30, ze31, ze32, ze34, ze40, ze41, ze42, ze43, zt0, zt1, zt2, zt3, zt4, zq0, zq1, zq2, zq3, zq4, it_t, it_f, Bool.true_eq_false, Bool.false_eq_true, na5, na4, na1441, na2, na10, sx_IOIA, sx_IOIS, sx_IONS, sx_IAIO, sx_IAIS, sx_IANS, sx_ISIO, sx_ISIA, sx_ISNS, sx_NSIO, sx_NSIA, sx_NSIS, s_pends z9.1 ha, s_pends z9.1 hb]
  refine ok_bR (cz_arr z9 hS ha hb hne (off := 8) (n := 18) (by decide) (by decide) (by decide)) (fun _ g10 z10 => ?_)
  simp (maxSteps := 3000000) (disch := first | assumption | omega) only [bO_v, bR_v, bX_l, bX_r, bC_l, bC_r, aLet_v, nI_add, pk_mul, dvI_n, rmI_n, iMax_n, iMin_n, zO_0, zO_1, li_0, li_1, li_2, li_3, li_4, li_5, li_6, li_7, li_8, li_9, li_10, li_12, li_14, li_15, li_16, li_18, li_19, li_20, li_22, li_23, li_24, li_26, li_29, li_30, li_31, li_32, li_36, li_38, li_48, li_50, li_57, li_58, li_59, li_60, li_63, li_97, li_99, li_120, li_122, li_144, li_168, li_194, li_240, li_255, li_284, li_299, li_603, li_999, li_1200, li_1440, li_4095, li_4096, li_6030, li_16384, li_20160, zl0, zl1, zl2, zl3, zl4, ze01, ze02, ze03, ze04, ze10, ze12, ze13, ze14, ze20, ze21, ze23, ze24, ze30, ze31, ze32, ze34, ze40, ze41, ze42, ze43, zt0, zt1, zt2, zt3, zt4, zq0, zq1, zq2, zq3, zq4, it_t, it_f, Bool.true_eq_false, Bool.false_eq_true, na5, na4, na1441, na2, na10, sx_IOIA, sx_IOIS, sx_IONS, sx_IAIO, sx_IAIS, sx_IANS, sx_ISIO, sx_ISIA, sx_ISNS, sx_NSIO, sx_NSIA, sx_NSIS, s_pret z10.1 ha, s_pret z10.1 hb]
  refine ok_bR (cz_arr z10 hS ha hb hne (off := 9) (n := 5) (by decide) (by decide) (by decide)) (fun _ g11 z11 => ?_)
  simp (maxSteps := 3000000) (disch := first | assumption | omega) only [bO_v, bR_v, bX_l, bX_r, bC_l, bC_r, aLet_v, nI_add, pk_mul, dvI_n, rmI_n, iMax_n, iMin_n, zO_0, zO_1, li_0, li_1, li_2, li_3, li_4, li_5, li_6, li_7, li_8, li_9, li_10, li_12, li_14, li_15, li_16, li_18, li_19, li_20, li_22, li_23, li_24, li_26, li_29, li_30, li_31, li_32, li_36, li_38, li_48, li_50, li_57, li_58, li_59, li_60, li_63, li_97, li_99, li_120, li_122, li_144, li_168, li_194, li_240, li_255, li_284, li_299, li_603, li_999, li_1200, li_1440, li_4095, li_4096, li_6030, li_16384, li_20160, zl0, zl1, zl2, zl3, zl4, ze01, ze02, ze03, ze04, ze10, ze12, ze13, ze14, ze20, ze21, ze23, ze24, ze30, ze31, ze32, ze34, ze40, ze41, ze42, ze43, zt0, zt1, zt2, zt3, zt4, zq0, zq1, zq2, zq3, zq4, it_t, it_f, Bool.true_eq_false, Bool.false_eq_true, na5, na4, na1441, na2, na10, sx_IOIA, sx_IOIS, sx_IONS, sx_IAIO, sx_IAIS, sx_IANS, sx_ISIO, sx_ISIA, sx_ISNS, sx_NSIO, sx_NSIA, sx_NSIS, s_pcrew z11.1 ha, s_pcrew z11.1 hb]
  refine ok_bR (cz_arr z11 hS ha hb hne (off := 10) (n := 5) (by decide) (by decide) (by decide)) (fun _ g12 z12 => ?_)
  have e12 : h_iv g12 a = h_iv h a := cz_src z12 ha hb hne (off := 0) (by decide)
  simp (maxSteps := 3000000) (disch := first | assumption | omega) only [bO_v, bR_v, bX_l, bX_r, bC_l, bC_r, aLet_v, nI_add, pk_mul, dvI_n, rmI_n, iMax_n, iMin_n, zO_0, zO_1, li_0, li_1, li_2, li_3, li_4, li_5, li_6, li_7, li_8, li_9, li_10, li_12, li_14, li_15, li_16, li_18, li_19, li_20, li_22, li_23, li_24, li_26, li_29, li_30, li_31, li_32, li_36, li_38, li_48, li_50, li_57, li_58, li_59, li_60, li_63, li_97, li_99, li_120, li_122, li_144, li_168, li_194, li_240, li_255, li_284, li_299, li_603, li_999, li_1200, li_1440, li_4095, li_4096, li_6030, li_16384, li_20160, zl0, zl1, zl2, zl3, zl4, ze01, ze02, ze03, ze04, ze10, ze12, ze13, ze14, ze20, ze21, ze23, ze24, ze30, ze31, ze32, ze34, ze40, ze41, ze42, ze43, zt0, zt1, zt2, zt3, zt4, zq0, zq1, zq2, zq3, zq4, it_t, it_f, Bool.true_eq_false, Bool.false_eq_true, na5, na4, na1441, na2, na10, sx_IOIA, sx_IOIS, sx_IONS, sx_IAIO, sx_IAIS, sx_IANS, sx_ISIO, sx_ISIA, sx_ISNS, sx_NSIO, sx_NSIA, sx_NSIS, s_cS_gi z12.1 ha, s_cS_pi z12.1 hb, e12]
  have z13 : Cz a b h (h_si g12 b 13 (h_iv h a 13)) _ _ := cz_fld z12 (off := 0) (k := 13) (by decide) (by decide)
  generalize h_si g12 b 13 (h_iv h a 13) = g13 at z13 ⊢
  simp (maxSteps := 3000000) (disch := first | assumption | omega) only [bO_v, bR_v, bX_l, bX_r, bC_l, bC_r, aLet_v, nI_add, pk_mul, dvI_n, rmI_n, iMax_n, iMin_n, zO_0, zO_1, li_0, li_1, li_2, li_3, li_4, li_5, li_6, li_7, li_8, li_9, li_10, li_12, li_14, li_15, li_16, li_18, li_19, li_20, li_22, li_23, li_24, li_26, li_29, li_30, li_31, li_32, li_36, li_38, li_48, li_50, li_57, li_58, li_59, li_60, li_63, li_97, li_99, li_120, li_122, li_144, li_168, li_194, li_240, li_255, li_284, li_299, li_603, li_999, li_1200, li_1440, li_4095, li_4096, li_6030, li_16384, li_20160, zl0, zl1, zl2, zl3, zl4, ze01, ze02, ze03, ze04, ze10, ze12, ze13, ze14, ze20, ze21, ze23, ze24, ze30, ze31, ze32, ze34, ze40, ze41, ze42, ze43, zt0, zt1, zt2, zt3, zt4, zq0, zq1, zq2, zq3, zq4, it_t, it_f, Bool.true_eq_false, Bool.false_eq_true, na5, na4, na1441, na2, na10, sx_IOIA, sx_IOIS, sx_IONS, sx_IAIO, sx_IAIS, sx_IANS, sx_ISIO, sx_ISIA, sx_ISNS, sx_NSIO, sx_NSIA, sx_NSIS, s_plog z13.1 ha, s_plog z13.1 hb, s_cL_gS z13.1 hb]
  refine ok_bR (Q := fun _ hz => Cz a b h hz [(11, 2), (11, 0), (0, 13), (0, 5), (0, 1)] [(17, 80), (16, 80), (15, 80), (14, 16), (13, 16), (12, 16), (10, 5), (9, 5), (8, 18), (7, 18), (6, 6), (5, 48), (4, 144), (3, 12), (2, 12), (1, 12)]) ?_ (fun _ gz zz => ?_)
  · simp only [m_X0_copyFrom]
    have e13 : h_iv g13 (a + 11) = h_iv h (a + 11) := cz_src z13 ha hb hne (off := 11) (by decide)
    simp (maxSteps := 3000000) (disch := first | assumption | omega) only [bO_v, bR_v, bX_l, bX_r, bC_l, bC_r, aLet_v, nI_add, pk_mul, dvI_n, rmI_n, iMax_n, iMin_n, zO_0, zO_1, li_0, li_1, li_2, li_3, li_4, li_5, li_6, li_7, li_8, li_9, li_10, li_12, li_14, li_15, li_16, li_18, li_19, li_20, li_22, li_23, li_24, li_26, li_29, li_30, li_31, li_32, li_36, li_38, li_48, li_50, li_57, li_58, li_59, li_60, li_63, li_97, li_99, li_120, li_122, li_144, li_168, li_194, li_240, li_255, li_284, li_299, li_603, li_999, li_1200, li_1440, li_4095, li_4096, li_6030, li_16384, li_20160, zl0, zl1, zl2, zl3, zl4, ze01, ze02, ze03, ze04, ze10, ze12, ze13, ze14, ze20, ze21, ze23, ze24, ze30, ze31, ze32, ze34, ze40, ze41, ze42, ze43, zt0, zt1, zt2, zt3, zt4, zq0, zq1, zq2, zq3, zq4, it_t, it_f, Bool.true_eq_false, Bool.false_eq_true, na5, na4, na1441, na2, na10, sx_IOIA, sx_IOIS, sx_IONS, sx_IAIO, sx_IAIS, sx_IANS, sx_ISIO, sx_ISIA, sx_ISNS, sx_NSIO, sx_NSIA, sx_NSIS, s_cL_gi z13.1 ha, s_cL_pi z13.1 hb, e13]
    have z14 : Cz a b h (h_si g13 (b + 11) 0 (h_iv h (a + 11) 0)) _ _ := cz_fld z13 (off := 11) (k := 0) (by decide) (by decide)
    generalize h_si g13 (b + 11) 0 (h_iv h (a + 11) 0) = g14 at z14 ⊢
    simp (maxSteps := 3000000) (disch := first | assumption | omega) only [bO_v, bR_v, bX_l, bX_r, bC_l, bC_r, aLet_v, nI_add, pk_mul, dvI_n, rmI_n, iMax_n, iMin_n, zO_0, zO_1, li_0, li_1, li_2, li_3, li_4, li_5, li_6, li_7, li_8, li_9, li_10, li_12, li_14, li_15, li_16, li_18, li_19, li_20, li_22, li_23, li_24, li_26, li_29, li_30, li_31, li_32, li_36, li_38, li_48, li_50, li_57, li_58, li_59, li_60, li_63, li_97, li_99, li_120, li_122, li_144, li_168, li_194, li_240, li_255, li_284, li_299, li_603, li_999, li_1200, li_1440, li_4095, li_4096, li_6030, li_16384, li_20160, zl0, zl1, zl2, zl3, zl4, ze01, ze02, ze03, ze04, ze10, ze12, ze13, ze14, ze20, ze21, ze23, ze24, ze30, ze31, ze32, ze34, ze40, ze41, ze42, ze43, zt0, zt1, zt2, zt3, zt4, zq0, zq1, zq2, zq3, zq4, it_t, it_f, Bool.true_eq_false, Bool.false_eq_true, na5, na4, na1441, na2, na10, sx_IOIA, sx_IOIS, sx_IONS, sx_IAIO, sx_IAIS, sx_IANS, sx_ISIO, sx_ISIA, sx_ISNS, sx_NSIO, sx_NSIA, sx_NSIS, s_plcosts z14.1 ha, s_plcosts z14.1 hb]
    refine ok_bR (cz_arr z14 hS ha hb hne (off := 12) (n := 16) (by decide) (by decide) (by decide)) (fun _ g15 z15 => ?_)
    have e15 : h_iv g15 (a + 11) = h_iv h (a + 11) := cz_src z15 ha hb hne (off := 11) (by decide)
    simp (maxSteps := 3000000) (disch := first | assumption | omega) only [bO_v, bR_v, bX_l, bX_r, bC_l, bC_r, aLet_v, nI_add, pk_mul, dvI_n, rmI_n, iMax_n, iMin_n, zO_0, zO_1, li_0, li_1, li_2, li_3, li_4, li_5, li_6, li_7, li_8, li_9, li_10, li_12, li_14, li_15, li_16, li_18, li_19, li_20, li_22, li_23, li_24, li_26, li_29, li_30, li_31, li_32, li_36, li_38, li_48, li_50, li_57, li_58, li_59, li_60, li_63, li_97, li_99, li_120, li_122, li_144, li_168, li_194, li_240, li_255, li_284, li_299, li_603, li_999, li_1200, li_1440, li_4095, li_4096, li_6030, li_16384, li_20160, zl0, zl1, zl2, zl3, zl4, ze01, ze02, ze03, ze04, ze10, ze12, ze13, ze14, ze20, ze21, ze23, ze24, ze30, ze31, ze32, ze34, ze40, ze41, ze42, ze43, zt0, zt1, zt2, zt3, zt4, zq0, zq1, zq2, zq3, zq4, it_t, it_f, Bool.true_eq_false, Bool.false_eq_true, na5, na4, na1441, na2, na10, sx_IOIA, sx_IOIS, sx_IONS, sx_IAIO, sx_IAIS, sx_IANS, sx_ISIO, sx_ISIA, sx_ISNS, sx_NSIO, sx_NSIA, sx_NSIS, s_cL_gi z15.1 ha, s_cL_pi z15.1 hb, e15]
    have z16 : Cz a b h (h_si g15 (b + 11) 2 (h_iv h (a + 11) 2)) _ _ := cz_fld z15 (off := 11) (k := 2) (by decide) (by decide)
    generalize h_si g15 (b + 11) 2 (h_iv h (a + 11) 2) = g16 at z16 ⊢
    simp (maxSteps := 3000000) (disch := first | assumption | omega) only [bO_v, bR_v, bX_l, bX_r, bC_l, bC_r, aLet_v, nI_add, pk_mul, dvI_n, rmI_n, iMax_n, iMin_n, zO_0, zO_1, li_0, li_1, li_2, li_3, li_4, li_5, li_6, li_7, li_8, li_9, li_10, li_12, li_14, li_15, li_16, li_18, li_19, li_20, li_22, li_23, li_24, li_26, li_29, li_30, li_31, li_32, li_36, li_38, li_48, li_50, li_57, li_58, li_59, li_60, li_63, li_97, li_99, li_120, li_122, li_144, li_168, li_194, li_240, li_255, li_284, li_299, li_603, li_999, li_1200, li_1440, li_4095, li_4096, li_6030, li_16384, li_20160, zl0, zl1, zl2, zl3, zl4, ze01, ze02, ze03, ze04, ze10, ze12, ze13, ze14, ze20, ze21, ze23, ze24, ze30, ze31, ze32, ze34, ze40, ze41, ze42, ze43, zt0, zt1, zt2, zt3, zt4, zq0, zq1, zq2, zq3, zq4, it_t, it_f, Bool.true_eq_false, Bool.false_eq_true, na5, na4, na1441, na2, na10, sx_IOIA, sx_IOIS, sx_IONS, sx_IAIO, sx_IAIS, sx_IANS, sx_ISIO, sx_ISIA, sx_ISNS, sx_NSIO, sx_NSIA, sx_NSIS, s_plcomers z16.1 ha, s_plcomers z16.1 hb]
    refine ok_bR (cz_arr z16 hS ha hb hne (off := 13) (n := 16) (by decide) (by decide) (by decide)) (fun _ g17 z17 => ?_)
    simp (maxSteps := 3000000) (disch := first | assumption | omega) only [bO_v, bR_v, bX_l, bX_r, bC_l, bC_r, aLet_v, nI_add, pk_mul, dvI_n, rmI_n, iMax_n, iMin_n, zO_0, zO_1, li_0, li_1, li_2, li_3, li_4, li_5, li_6, li_7, li_8, li_9, li_10, li_12, li_14, li_15, li_16, li_18, li_19, li_20, li_22, li_23, li_24, li_26, li_29, li_30, li_31, li_32, li_36, li_38, li_48, li_50, li_57, li_58, li_59, li_60, li_63, li_97, li_99, li_120, li_122, li_144, li_168, li_194, li_240, li_255, li_284, li_299, li_603, li_999, li_1200, li_1440, li_4095, li_4096, li_6030, li_16384, li_20160, zl0, zl1, zl2, zl3, zl4, ze01, ze02, ze03, ze04, ze10, ze12, ze13, ze14, ze20, ze21, ze23, ze24, ze30, ze31, ze32, ze34, ze40, ze41, ze42, ze43, zt0, zt1, zt2, zt3, zt4, zq0, zq1, zq2, zq3, zq4, it_t, it_f, Bool.true_eq_false, Bool.false_eq_true, na5, na4, na1441, na2, na10, sx_IOIA, sx_IOIS, sx_IONS, sx_IAIO, sx_IAIS, sx_IANS, sx_ISIO, sx_ISIA, sx_ISNS, sx_NSIO, sx_NSIA, sx_NSIS, s_plleavers z17.1 ha, s_plleavers z17.1 hb]
    refine ok_bR (cz_arr z17 hS ha hb hne (off := 14) (n := 16) (by decide) (by decide) (by decide)) (fun _ g18 z18 => ?_)
    simp (maxSteps := 3000000) (disch := first | assumption | omega) only [bO_v, bR_v, bX_l, bX_r, bC_l, bC_r, aLet_v, nI_add, pk_mul, dvI_n, rmI_n, iMax_n, iMin_n, zO_0, zO_1, li_0, li_1, li_2, li_3, li_4, li_5, li_6, li_7, li_8, li_9, li_10, li_12, li_14, li_15, li_16, li_18, li_19, li_20, li_22, li_23, li_24, li_26, li_29, li_30, li_31, li_32, li_36, li_38, li_48, li_50, li_57, li_58, li_59, li_60, li_63, li_97, li_99, li_120, li_122, li_144, li_168, li_194, li_240, li_255, li_284, li_299, li_603, li_999, li_1200, li_1440, li_4095, li_4096, li_6030, li_16384, li_20160, zl0, zl1, zl2, zl3, zl4, ze01, ze02, ze03, ze04, ze10, ze12, ze13, ze14, ze20, ze21, ze23, ze24, ze30, ze31, ze32, ze34, ze40, ze41, ze42, ze43, zt0, zt1, zt2, zt3, zt4, zq0, zq1, zq2, zq3, zq4, it_t, it_f, Bool.true_eq_false, Bool.false_eq_true, na5, na4, na1441, na2, na10, sx_IOIA, sx_IOIS, sx_IONS, sx_IAIO, sx_IAIS, sx_IANS, sx_ISIO, sx_ISIA, sx_ISNS, sx_NSIO, sx_NSIA, sx_NSIS, s_plengs z18.1 ha, s_plengs z18.1 hb]
    refine ok_bR (cz_arr z18 hS ha hb hne (off := 15) (n := 80) (by decide) (by decide) (by decide)) (fun _ g19 z19 => ?_)
    simp (maxSteps := 3000000) (disch := first | assumption | omega) only [bO_v, bR_v, bX_l, bX_r, bC_l, bC_r, aLet_v, nI_add, pk_mul, dvI_n, rmI_n, iMax_n, iMin_n, zO_0, zO_1, li_0, li_1, li_2, li_3, li_4, li_5, li_6, li_7, li_8, li_9, li_10, li_12, li_14, li_15, li_16, li_18, li_19, li_20, li_22, li_23, li_24, li_26, li_29, li_30, li_31, li_32, li_36, li_38, li_48, li_50, li_57, li_58, li_59, li_60, li_63, li_97, li_99, li_120, li_122, li_144, li_168, li_194, li_240, li_255, li_284, li_299, li_603, li_999, li_1200, li_1440, li_4095, li_4096, li_6030, li_16384, li_20160, zl0, zl1, zl2, zl3, zl4, ze01, ze02, ze03, ze04, ze10, ze12, ze13, ze14, ze20, ze21, ze23, ze24, ze30, ze31, ze32, ze34, ze40, ze41, ze42, ze43, zt0, zt1, zt2, zt3, zt4, zq0, zq1, zq2, zq3, zq4, it_t, it_f, Bool.true_eq_false, Bool.false_eq_true, na5, na4, na1441, na2, na10, sx_IOIA, sx_IOIS, sx_IONS, sx_IAIO, sx_IAIS, sx_IANS, sx_ISIO, sx_ISIA, sx_ISNS, sx_NSIO, sx_NSIA, sx_NSIS, s_pltimes z19.1 ha, s_pltimes z19.1 hb]
    refine ok_bR (cz_arr z19 hS ha hb hne (off := 16) (n := 80) (by decide) (by decide) (by decide)) (fun _ g20 z20 => ?_)
    simp (maxSteps := 3000000) (disch := first | assumption | omega) only [bO_v, bR_v, bX_l, bX_r, bC_l, bC_r, aLet_v, nI_add, pk_mul, dvI_n, rmI_n, iMax_n, iMin_n, zO_0, zO_1, li_0, li_1, li_2, li_3, li_4, li_5, li_6, li_7, li_8, li_9, li_10, li_12, li_14, li_15, li_16, li_18, li_19, li_20, li_22, li_23, li_24, li_26, li_29, li_30, li_31, li_32, li_36, li_38, li_48, li_50, li_57, li_58, li_59, li_60, li_63, li_97, li_99, li_120, li_122, li_144, li_168, li_194, li_240, li_255, li_284, li_299, li_603, li_999, li_1200, li_1440, li_4095, li_4096, li_6030, li_16384, li_20160, zl0, zl1, zl2, zl3, zl4, ze01, ze02, ze03, ze04, ze10, ze12, ze13, ze14, ze20, ze21, ze23, ze24, ze30, ze31, ze32, ze34, ze40, ze41, ze42, ze43, zt0, zt1, zt2, zt3, zt4, zq0, zq1, zq2, zq3, zq4, it_t, it_f, Bool.true_eq_false, Bool.false_eq_true, na5, na4, na1441, na2, na10, sx_IOIA, sx_IOIS, sx_IONS, sx_IAIO, sx_IAIS, sx_IANS, sx_ISIO, sx_ISIA, sx_ISNS, sx_NSIO, sx_NSIA, sx_NSIS, s_plcrews z20.1 ha, s_plcrews z20.1 hb]
    refine ok_bR (cz_arr z20 hS ha hb hne (off := 17) (n := 80) (by decide) (by decide) (by decide)) (fun _ g21 z21 => ?_)
    exact ok_ret z21
  obtain ⟨y1, y2, y3, y4, y5⟩ := zz
  exact ok_ret ⟨y1, y2, x.move hD hR (y5.trans x.pl) (fun q hq => y3 q (by revert q; decide)) (fun q hq => y4 q (by revert q; decide))⟩
end
