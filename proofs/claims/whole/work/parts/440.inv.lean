/-! what every call keeps -/
theorem it_t {α : Type} {a b : α} : (if True then a else b) = a := if_pos trivial
theorem it_f {α : Type} {a b : α} : (if False then a else b) = b := if_neg id
theorem sx_IOIA : ("java/lang/IndexOutOfBoundsException" = "java/lang/IllegalArgumentException") = False := eq_false (by decide +kernel)
theorem sx_IOIS : ("java/lang/IndexOutOfBoundsException" = "java/lang/IllegalStateException") = False := eq_false (by decide +kernel)
theorem sx_IONS : ("java/lang/IndexOutOfBoundsException" = "java/util/NoSuchElementException") = False := eq_false (by decide +kernel)
theorem sx_IAIO : ("java/lang/IllegalArgumentException" = "java/lang/IndexOutOfBoundsException") = False := eq_false (by decide +kernel)
theorem sx_IAIS : ("java/lang/IllegalArgumentException" = "java/lang/IllegalStateException") = False := eq_false (by decide +kernel)
theorem sx_IANS : ("java/lang/IllegalArgumentException" = "java/util/NoSuchElementException") = False := eq_false (by decide +kernel)
theorem sx_ISIO : ("java/lang/IllegalStateException" = "java/lang/IndexOutOfBoundsException") = False := eq_false (by decide +kernel)
theorem sx_ISIA : ("java/lang/IllegalStateException" = "java/lang/IllegalArgumentException") = False := eq_false (by decide +kernel)
theorem sx_ISNS : ("java/lang/IllegalStateException" = "java/util/NoSuchElementException") = False := eq_false (by decide +kernel)
theorem sx_NSIO : ("java/util/NoSuchElementException" = "java/lang/IndexOutOfBoundsException") = False := eq_false (by decide +kernel)
theorem sx_NSIA : ("java/util/NoSuchElementException" = "java/lang/IllegalArgumentException") = False := eq_false (by decide +kernel)
theorem sx_NSIS : ("java/util/NoSuchElementException" = "java/lang/IllegalStateException") = False := eq_false (by decide +kernel)
theorem zl0 : ((0 : Nat) ≤ 0) = True := eq_true (by decide)
theorem zl1 : ((1 : Nat) ≤ 0) = False := eq_false (by decide)
theorem zl2 : ((2 : Nat) ≤ 0) = False := eq_false (by decide)
theorem zl3 : ((3 : Nat) ≤ 0) = False := eq_false (by decide)
theorem zl4 : ((4 : Nat) ≤ 0) = False := eq_false (by decide)
theorem ze01 : ((0 : Nat) = 1) = False := eq_false (by decide)
theorem ze02 : ((0 : Nat) = 2) = False := eq_false (by decide)
theorem ze03 : ((0 : Nat) = 3) = False := eq_false (by decide)
theorem ze04 : ((0 : Nat) = 4) = False := eq_false (by decide)
theorem ze10 : ((1 : Nat) = 0) = False := eq_false (by decide)
theorem ze12 : ((1 : Nat) = 2) = False := eq_false (by decide)
theorem ze13 : ((1 : Nat) = 3) = False := eq_false (by decide)
theorem ze14 : ((1 : Nat) = 4) = False := eq_false (by decide)
theorem ze20 : ((2 : Nat) = 0) = False := eq_false (by decide)
theorem ze21 : ((2 : Nat) = 1) = False := eq_false (by decide)
theorem ze23 : ((2 : Nat) = 3) = False := eq_false (by decide)
theorem ze24 : ((2 : Nat) = 4) = False := eq_false (by decide)
theorem ze30 : ((3 : Nat) = 0) = False := eq_false (by decide)
theorem ze31 : ((3 : Nat) = 1) = False := eq_false (by decide)
theorem ze32 : ((3 : Nat) = 2) = False := eq_false (by decide)
theorem ze34 : ((3 : Nat) = 4) = False := eq_false (by decide)
theorem ze40 : ((4 : Nat) = 0) = False := eq_false (by decide)
theorem ze41 : ((4 : Nat) = 1) = False := eq_false (by decide)
theorem ze42 : ((4 : Nat) = 2) = False := eq_false (by decide)
theorem ze43 : ((4 : Nat) = 3) = False := eq_false (by decide)
theorem zt0 : ((0 : Nat) < 0) = False := eq_false (by decide)
theorem zq0 : ((0 : Nat) ≤ 4) = True := eq_true (by decide)
theorem zt1 : ((1 : Nat) < 0) = False := eq_false (by decide)
theorem zq1 : ((1 : Nat) ≤ 4) = True := eq_true (by decide)
theorem zt2 : ((2 : Nat) < 0) = False := eq_false (by decide)
theorem zq2 : ((2 : Nat) ≤ 4) = True := eq_true (by decide)
theorem zt3 : ((3 : Nat) < 0) = False := eq_false (by decide)
theorem zq3 : ((3 : Nat) ≤ 4) = True := eq_true (by decide)
theorem zt4 : ((4 : Nat) < 0) = False := eq_false (by decide)
theorem zq4 : ((4 : Nat) ≤ 4) = True := eq_true (by decide)
theorem na5 : 4 + 1 = 5 := rfl
theorem na4 : 3 + 1 = 4 := rfl
theorem na1441 : 1440 + 1 = 1441 := rfl
theorem na2 : 1 + 1 = 2 := rfl
theorem na10 : 9 + 1 = 10 := rfl
/-- ints that no later call reads -/
def SQ (o k : Nat) : Prop := (152 ≤ o ∧ o < 180) ∨ o = 416 ∨ (456 ≤ o ∧ o < 462) ∨ (o = 412 ∧ (k = 0 ∨ k = 63 ∨ k = 68))
def SQr (o k : Nat) : Prop := (o = 172 ∧ (k = 0 ∨ k = 1)) ∨ (o = 153 ∧ k = 0)
/-- a question was answered: c objects at most were made -/
def QF (c : Nat) (h h' : aH) : Prop := h_nx h ≤ h_nx h' ∧ h_nx h' ≤ h_nx h + c ∧ h_sl h' ≤ h_sl h + 12 * c ∧ (∀ o, o < 463 → h_sh h' o = h_sh h o ∧ h_ln h' o = h_ln h o) ∧ (∀ o k, o < 463 → ¬ SQ o k → h_iv h' o k = h_iv h o k) ∧ (∀ o k, o < 463 → ¬ SQr o k → h_rv h' o k = h_rv h o k) ∧ ∀ o k, o < 462 → h_lv h' o k = h_lv h o k
theorem QF.rf {h : aH} : QF 0 h h := ⟨Nat.le_refl _, Nat.le_refl _, Nat.le_refl _, fun _ _ => ⟨rfl, rfl⟩, fun _ _ _ _ => rfl, fun _ _ _ _ => rfl, fun _ _ _ => rfl⟩
theorem QF.trans {c d : Nat} {h h1 h2 : aH} (x : QF c h h1) (y : QF d h1 h2) : QF (c + d) h h2 := by
  obtain ⟨x1, x2, x3, x4, x5, x6, x7⟩ := x
  obtain ⟨y1, y2, y3, y4, y5, y6, y7⟩ := y
  exact ⟨by omega, by omega, by omega, fun o ho => ⟨(y4 o ho).1.trans (x4 o ho).1, (y4 o ho).2.trans (x4 o ho).2⟩, fun o k ho hq => (y5 o k ho hq).trans (x5 o k ho hq), fun o k ho hq => (y6 o k ho hq).trans (x6 o k ho hq), fun o k ho => (y7 o k ho).trans (x7 o k ho)⟩
theorem QF.le {c d : Nat} {h h1 : aH} (x : QF c h h1) (hc : c ≤ d) : QF d h h1 := by
  obtain ⟨x1, x2, x3, x4, x5, x6, x7⟩ := x
  exact ⟨x1, by omega, by omega, x4, x5, x6, x7⟩
theorem QF.exc {h : aH} : QF 1 h (h_exc h) := ⟨Nat.le_succ _, Nat.le_refl _, show h.2.1 + 6 ≤ h.2.1 + 12 * 1 by omega, fun _ _ => ⟨rfl, rfl⟩, fun _ _ _ _ => rfl, fun _ _ _ _ => rfl, fun _ _ _ => rfl⟩
theorem QF.L {h : aH} {y : Int64} : QF 0 h (h_sL h 462 0 y) := ⟨Nat.le_refl _, Nat.le_refl _, Nat.le_refl _, fun _ _ => ⟨rfl, rfl⟩, fun _ _ _ _ => rfl, fun _ _ _ _ => rfl, fun o k ho => u2n (by omega)⟩
theorem QF.fx {A : Nat → Nat → Prop} {h h1 : aH} (x : Fx A h h1) (hA : ∀ o k, A o k → SQ o k) : QF 0 h h1 := by
  obtain ⟨x1, x2, x3, x4, x5, x6, x7⟩ := x
  exact ⟨by omega, by omega, by omega, fun o _ => ⟨by rw [x3], by rw [x4]⟩, fun o k _ hq => x7 o k (fun q => hq (hA o k q)), fun o k _ _ => by rw [x5], fun o k _ => by rw [x6]⟩
theorem QF.fr {A : Nat → Prop} {h h1 : aH} (x : Fr A h h1) (hA : ∀ o, A o → ∀ k, SQ o k) : QF 0 h h1 := QF.fx x.fx (fun o k q => hA o q k)
theorem QF.mu {h h1 : aH} (x : MuF h h1) : QF 0 h h1 := by
  obtain ⟨x1, x2, x3, x4, x5, x6, x7⟩ := x
  exact ⟨by omega, by omega, by omega, fun o _ => ⟨by rw [x3], by rw [x4]⟩, fun o k _ hq => x6 o k (fun q => hq (by unfold MUx at q; unfold SQ; omega)), fun o k _ hq => x7 o k (fun q => hq (Or.inl q)), fun o k _ => by rw [x5]⟩
theorem QF.si {h : aH} {o k : Nat} {x : Int32} (ho : SQ o k) : QF 0 h (h_si h o k x) := QF.fx (A := SQ) (Fx.si ho) (fun _ _ q => q)
theorem QF.new {h : aH} {t n : Nat} (hS : Sh h) (hn : n ≤ 12) : QF 1 h (h_new h t n) := by
  have h1 : 463 ≤ h.1 := hS.1
  refine ⟨Nat.le_succ _, Nat.le_refl _, show h.2.1 + n ≤ h.2.1 + 12 * 1 by omega, fun o ho => ⟨u1n (by omega), u1n (by omega)⟩, fun o k ho _ => congrFun (u1n (by omega)) k, fun o k ho _ => congrFun (u1n (by omega)) k, fun o k ho => congrFun (u1n (by omega)) k⟩
theorem QF.sh {c : Nat} {h h1 : aH} (x : QF c h h1) (hS : Sh h) : Sh h1 := by
  obtain ⟨x1, x2, x3, x4, x5, x6, x7⟩ := x
  refine ⟨Nat.le_trans hS.1 x1, fun q hq => ?_, fun q hq => ?_⟩
  · have h2 := x4 _ (shL_lt q hq)
    rw [h2.1, h2.2]; exact hS.2.1 q hq
  · have hne : ∀ q ∈ ptL, ¬ ((q.1 = 172 ∧ (q.2.1 = 0 ∨ q.2.1 = 1)) ∨ (q.1 = 153 ∧ q.2.1 = 0)) := by decide +kernel
    rw [x6 _ _ (ptL_lt q hq) (hne q hq)]
    exact hS.2.2 q hq
/-- a word: its letters (1 to 26), its length -/
def enc (b : Nat) (f : Nat → Nat) : Nat → Nat
  | 0 => 0
  | n + 1 => b * enc b f n + f n
def okW (f : Nat → Nat) (n : Nat) : Prop := 1 ≤ n ∧ n ≤ 8 ∧ ∀ k, k < n → 1 ≤ f k ∧ f k ≤ 26
/-- things with names, of four sorts -/
def nmO (P s i : Nat) : Nat := if s = 0 then P + 8 + 1 * i else if s = 1 then P + 20 + 2 * i else if s = 2 then P + 32 + 3 * i else P + 47 + 3 * i
def nmB (s : Nat) : Nat := if s = 0 then 0 else if s = 1 then 12 else if s = 2 then 18 else 23
def nmN (T : Nat → Nat → Nat) (s : Nat) : Nat := if s = 0 then T 412 8 else if s = 1 then T 412 9 else if s = 2 then T 412 10 else T 412 11
def NmR (h : aH) (P : Nat) (T : Nat → Nat → Nat) : Prop := ∃ W : Nat → Nat → Nat, ∃ L : Nat → Nat, ∀ s i, s < 4 → i < nmN T s → okW (W (nmB s + i)) (L (nmB s + i)) ∧ h_lv h (nmO P s i) 0 = Int64.ofNat (enc 32 (W (nmB s + i)) (L (nmB s + i))) ∧ h_lv h 419 (nmB s + i) = Int64.ofNat (enc 27 (W (nmB s + i)) (L (nmB s + i)))
/-- a row that can be the present one -/
def RwB (T : Nat → Nat → Nat) (S : Nat → Nat) : Prop := RwD T S ∧ (∀ p, p < T 412 8 → S (38 + p) ≤ 20000 * S 1) ∧ S 0 ≤ 20160
/-- the i-th row of a table -/
def rw4 (T : Nat → Nat → Nat) (o i j : Nat) : Nat := if j < 603 then T o (603 * i + j) else 0
/-- what holds ahead of every call of the law -/
def IV (h : aH) (T : Nat → Nat → Nat) (P Q : Nat) : Prop :=
  (Sh h) ∧
  ((P = 4 ∧ Q = 69) ∨ (P = 69 ∧ Q = 4)) ∧
  (h_rv h 1 3 = P) ∧
  (h_rv h 1 4 = Q) ∧
  (RefR h T) ∧
  (PlD T) ∧
  (PlR h P T) ∧
  (RwB T (T 413)) ∧
  (StR h 134 P T (T 413)) ∧
  (h_iv h 180 0 = nI (T 412 6) ∧ T 412 6 ≤ 10) ∧
  (∀ i, i < 10 → ∃ m, m < 10 ∧ h_rv h 181 i = 184 + 19 * m) ∧
  (∀ i j, i < 10 → j < 10 → h_rv h 181 i = h_rv h 181 j → i = j) ∧
  (∀ i, i < T 412 6 → RwB T (rw4 T 414 i) ∧ StR h (h_rv h 181 i) P T (rw4 T 414 i)) ∧
  (∀ s, s < 2 → h_iv h 183 s = nI (T 417 s) ∧ T 417 s ≤ 1 ∧ (T 417 s = 1 → RwB T (rw4 T 415 s) ∧ StR h (374 + 19 * s) P T (rw4 T 415 s))) ∧
  (h_iv h 1 1 = nI (T 412 29) ∧ T 412 29 ≤ 1200 ∧ ∀ k, k < T 412 29 → T 435 k < 256 ∧ h_iv h 2 k = (nI (T 435 k)).toInt8.toInt32) ∧
  (h_iv h 3 9 = h_iv h 412 31 ∧ h_iv h 3 10 = h_iv h 412 32) ∧
  (NmR h P T ∧ ∀ o k, 436 ≤ o → o < 456 → o ≠ 437 → ∃ v, v < 2147483600 ∧ h_iv h o k = nI v)
theorem IV.sh {h : aH} {T : Nat → Nat → Nat} {P Q : Nat} (I : IV h T P Q) : Sh h := I.1
theorem IV.pls {h : aH} {T : Nat → Nat → Nat} {P Q : Nat} (I : IV h T P Q) : (P = 4 ∧ Q = 69) ∨ (P = 69 ∧ Q = 4) := I.2.1
theorem IV.pl {h : aH} {T : Nat → Nat → Nat} {P Q : Nat} (I : IV h T P Q) : h_rv h 1 3 = P := I.2.2.1
theorem IV.sp {h : aH} {T : Nat → Nat → Nat} {P Q : Nat} (I : IV h T P Q) : h_rv h 1 4 = Q := I.2.2.2.1
theorem IV.z {h : aH} {T : Nat → Nat → Nat} {P Q : Nat} (I : IV h T P Q) : RefR h T := I.2.2.2.2.1
theorem IV.D {h : aH} {T : Nat → Nat → Nat} {P Q : Nat} (I : IV h T P Q) : PlD T := I.2.2.2.2.2.1
theorem IV.y {h : aH} {T : Nat → Nat → Nat} {P Q : Nat} (I : IV h T P Q) : PlR h P T := I.2.2.2.2.2.2.1
theorem IV.RB {h : aH} {T : Nat → Nat → Nat} {P Q : Nat} (I : IV h T P Q) : RwB T (T 413) := I.2.2.2.2.2.2.2.1
theorem IV.x {h : aH} {T : Nat → Nat → Nat} {P Q : Nat} (I : IV h T P Q) : StR h 134 P T (T 413) := I.2.2.2.2.2.2.2.2.1
theorem IV.kc {h : aH} {T : Nat → Nat → Nat} {P Q : Nat} (I : IV h T P Q) : h_iv h 180 0 = nI (T 412 6) ∧ T 412 6 ≤ 10 := I.2.2.2.2.2.2.2.2.2.1
theorem IV.kA {h : aH} {T : Nat → Nat → Nat} {P Q : Nat} (I : IV h T P Q) : ∀ i, i < 10 → ∃ m, m < 10 ∧ h_rv h 181 i = 184 + 19 * m := I.2.2.2.2.2.2.2.2.2.2.1
theorem IV.kI {h : aH} {T : Nat → Nat → Nat} {P Q : Nat} (I : IV h T P Q) : ∀ i j, i < 10 → j < 10 → h_rv h 181 i = h_rv h 181 j → i = j := I.2.2.2.2.2.2.2.2.2.2.2.1
theorem IV.kp {h : aH} {T : Nat → Nat → Nat} {P Q : Nat} (I : IV h T P Q) : ∀ i, i < T 412 6 → RwB T (rw4 T 414 i) ∧ StR h (h_rv h 181 i) P T (rw4 T 414 i) := I.2.2.2.2.2.2.2.2.2.2.2.2.1
theorem IV.sl {h : aH} {T : Nat → Nat → Nat} {P Q : Nat} (I : IV h T P Q) : ∀ s, s < 2 → h_iv h 183 s = nI (T 417 s) ∧ T 417 s ≤ 1 ∧ (T 417 s = 1 → RwB T (rw4 T 415 s) ∧ StR h (374 + 19 * s) P T (rw4 T 415 s)) := I.2.2.2.2.2.2.2.2.2.2.2.2.2.1
theorem IV.tx {h : aH} {T : Nat → Nat → Nat} {P Q : Nat} (I : IV h T P Q) : h_iv h 1 1 = nI (T 412 29) ∧ T 412 29 ≤ 1200 ∧ ∀ k, k < T 412 29 → T 435 k < 256 ∧ h_iv h 2 k = (nI (T 435 k)).toInt8.toInt32 := I.2.2.2.2.2.2.2.2.2.2.2.2.2.2.1
theorem IV.er {h : aH} {T : Nat → Nat → Nat} {P Q : Nat} (I : IV h T P Q) : h_iv h 3 9 = h_iv h 412 31 ∧ h_iv h 3 10 = h_iv h 412 32 := I.2.2.2.2.2.2.2.2.2.2.2.2.2.2.2.1
theorem IV.nm {h : aH} {T : Nat → Nat → Nat} {P Q : Nat} (I : IV h T P Q) : NmR h P T ∧ ∀ o k, 436 ≤ o → o < 456 → o ≠ 437 → ∃ v, v < 2147483600 ∧ h_iv h o k = nI v := I.2.2.2.2.2.2.2.2.2.2.2.2.2.2.2.2
theorem IV.hP {h : aH} {T : Nat → Nat → Nat} {P Q : Nat} (I : IV h T P Q) : P ∈ plL := by
  rcases I.pls with h | h <;> (rw [h.1]; decide)
theorem IV.hQ {h : aH} {T : Nat → Nat → Nat} {P Q : Nat} (I : IV h T P Q) : Q ∈ plL := by
  rcases I.pls with h | h <;> (rw [h.2]; decide)
theorem IV.R {h : aH} {T : Nat → Nat → Nat} {P Q : Nat} (I : IV h T P Q) : RwD T (T 413) := I.RB.1
theorem IV.st {h : aH} {T : Nat → Nat → Nat} {P Q : Nat} (I : IV h T P Q) : ∃ a, a ∈ stL ∧ gr h 11 1 5 = some a ∧ StR h a P T (T 413) ∧ a = 134 := ⟨134, by decide, c_pst I.sh, I.x, rfl⟩
theorem IV.g3 {h : aH} {T : Nat → Nat → Nat} {P Q : Nat} (I : IV h T P Q) : gr h 11 1 3 = some P := gr_ok9 (c_cX I.sh) I.pl (pl_ne0 P I.hP)
theorem IV.g4 {h : aH} {T : Nat → Nat → Nat} {P Q : Nat} (I : IV h T P Q) : gr h 11 1 4 = some Q := gr_ok9 (c_cX I.sh) I.sp (pl_ne0 Q I.hQ)
theorem IV.go {c : Nat} {h h1 : aH} {T : Nat → Nat → Nat} {P Q : Nat} (I : IV h T P Q) (f : QF c h h1) : IV h1 T P Q := by
  obtain ⟨a1, a2, a3, a4, a5, a6, a7, a8, a9, a10, a11, a12, a13, a14, a15, a16, a17⟩ := I
  have hS1 := f.sh a1
  obtain ⟨x1, x2, x3, x4, x5, x6, x7⟩ := f
  have pin : 4 ≤ P ∧ P + 65 ≤ 134 := by omega
  have ivk : ∀ o, o < 463 → (∀ k, ¬ SQ o k) → h_iv h1 o = h_iv h o := fun o ho hq => funext fun k => x5 o k ho (hq k)
  have stk : ∀ {a : Nat} {S : Nat → Nat}, (a = 134 ∨ (184 ≤ a ∧ a + 18 ≤ 412)) → StR h a P T S → StR h1 a P T S := fun {a S} ha x => x.keep (fun o q1 q2 => ivk o (by omega) (fun k => by unfold SQ; omega)) (x6 _ _ (by omega) (by unfold SQr; omega))
  refine ⟨hS1, a2, ?_, ?_, ?_, a6, ?_, a8, ?_, ?_, ?_, ?_, ?_, ?_, ?_, ?_, ?_⟩
  · rw [x6 _ _ (by omega) (by unfold SQr; omega)]; exact a3
  · rw [x6 _ _ (by omega) (by unfold SQr; omega)]; exact a4
  · exact ⟨fun o k q => by rw [x5 o k (by unfold rfC at q; omega) (by unfold rfC at q; unfold SQ; omega)]; exact a5.1 o k q, a5.2⟩
  · exact a7.keep (fun o q1 q2 => ivk o (by omega) (fun k => by unfold SQ; omega)) a6
  · exact stk (Or.inl rfl) a9
  · rw [x5 _ _ (by omega) (by unfold SQ; omega)]; exact a10
  · intro i hi
    rw [x6 _ _ (by omega) (by unfold SQr; omega)]; exact a11 i hi
  · intro i j hi hj hh
    rw [x6 _ _ (by omega) (by unfold SQr; omega), x6 _ _ (by omega) (by unfold SQr; omega)] at hh
    exact a12 i j hi hj hh
  · intro i hi
    obtain ⟨b1, b2⟩ := a13 i hi
    obtain ⟨m, m1, m2⟩ := a11 i (by omega)
    rw [x6 _ _ (by omega) (by unfold SQr; omega)]
    exact ⟨b1, stk (Or.inr (by omega)) b2⟩
  · intro s hs
    obtain ⟨b1, b2, b3⟩ := a14 s hs
    exact ⟨by rw [x5 _ _ (by omega) (by unfold SQ; omega)]; exact b1, b2, fun e => ⟨(b3 e).1, stk (Or.inr (by omega)) (b3 e).2⟩⟩
  · refine ⟨by rw [x5 _ _ (by omega) (by unfold SQ; omega)]; exact a15.1, a15.2.1, fun k hk => ?_⟩
    rw [x5 _ _ (by omega) (by unfold SQ; omega)]; exact a15.2.2 k hk
  · refine ⟨?_, ?_⟩
    · rw [x5 _ _ (by omega) (by unfold SQ; omega), x5 _ _ (by omega) (by unfold SQ; omega)]; exact a16.1
    · rw [x5 _ _ (by omega) (by unfold SQ; omega), x5 _ _ (by omega) (by unfold SQ; omega)]; exact a16.2
  · obtain ⟨⟨W, L, hW⟩, hN⟩ := a17
    refine ⟨⟨W, L, fun s i hs hi => ?_⟩, fun o k q1 q2 q3 => ?_⟩
    · obtain ⟨w1, w2, w3⟩ := hW s i hs hi
      have hb : nmO P s i < 462 := by
        have e1 := a6.nP
        have e2 := a6.nG
        have e3 := a6.nE
        have e4 := a6.nK
        unfold nmN at hi
        unfold nmO
        split
        · rw [if_pos ‹_›] at hi; omega
        · rw [if_neg ‹_›] at hi
          split
          · rw [if_pos ‹_›] at hi; omega
          · rw [if_neg ‹_›] at hi
            split
            · rw [if_pos ‹_›] at hi; omega
            · rw [if_neg ‹_›] at hi; omega
      exact ⟨w1, by rw [x7 _ _ hb]; exact w2, by rw [x7 _ _ (by omega)]; exact w3⟩
    · rw [x5 _ _ (by omega) (by unfold SQ; omega)]; exact hN o k q1 q2 q3
/-- a call of the class, at the law: its answer stands in the array -/
def CQ (c : Nat) (h : aH) (x : Option (Int32 × aH)) (k : Nat) (v : Int32) : Prop := OK x (fun r h1 => r = nI k ∧ QF c h h1 ∧ (k = 0 → h_lv h1 462 0 = v.toInt64))
/-- .. of the reference -/
def RQ (h : aH) (x : Option (Int32 × aH)) (k : Nat) (v : Int32) : Prop := OK x (fun r h1 => QF 0 h h1 ∧ h_lv h1 = h_lv h ∧ h_iv h1 412 0 = nI k ∧ (k = 0 → r = v))
/-- one question, asked of both -/
def QQ (h : aH) (T : Nat → Nat → Nat) (P Q : Nat) (x : Option (Int32 × aH)) (y : aH → Option (Int32 × aH)) : Prop := ∃ k v, k < 5 ∧ CQ 2 h x k v ∧ ∀ h1, IV h1 T P Q → RQ h1 (y h1) k v
theorem cq_exc {h : aH} {x : Option (Int32 × aH)} {k : Nat} {v : Int32} (e : x = some (nI k, h_exc h)) (hk : k ≠ 0) : CQ 2 h x k v := ⟨_, _, e, rfl, QF.exc.le (by decide), fun q => absurd q hk⟩
theorem sL_at {h : aH} {o k : Nat} {y : Int64} : h_lv (h_sL h o k y) o k = y := by
  show up2 _ _ _ _ _ _ = _
  exact if_pos ⟨rfl, rfl⟩
theorem cq_val {h : aH} {x : Option (Int32 × aH)} {v : Int32} (e : x = some (nI 0, h_sL h 462 0 v.toInt64)) : CQ 2 h x 0 v := ⟨_, _, e, rfl, QF.L.le (by decide), fun _ => sL_at⟩
theorem rq0 {h : aH} {x : Option (Int32 × aH)} {v : Int32} (e : OK x (fun r h1 => QF 0 h h1 ∧ h_lv h1 = h_lv h ∧ h_iv h1 412 0 = nI 0 ∧ r = v)) : RQ h x 0 v := ok_mono e (fun r h1 q => ⟨q.1, q.2.1, q.2.2.1, fun _ => q.2.2.2⟩)
theorem rq_exc {h : aH} {x : Option (Int32 × aH)} {k : Nat} {v w : Int32} (e : x = some (w, h_si h 412 0 (nI k))) (hk : k ≠ 0) : RQ h x k v := ⟨_, _, e, QF.si (by unfold SQ; omega), rfl, si_at, fun q => absurd q hk⟩
theorem rq_val {h : aH} {x : Option (Int32 × aH)} {v : Int32} (e : x = some (v, h_si h 412 0 (nI 0))) : RQ h x 0 v := ⟨_, _, e, QF.si (by unfold SQ; omega), rfl, si_at, fun _ => rfl⟩
theorem ndl {x : Int32} {n : Nat} {α : Type} {A B : α} (hn : n < 1000000) : (if x < nI 0 then B else if x < nI n then A else B) = if inr x n = true then A else B := by
  rcases pk_ix x (n := n) (by omega) with h3 | h3 | ⟨j, h3, rfl⟩
  · rw [if_pos (show x < nI 0 from h3), if_neg]
    intro q
    have := of_decide_eq_true q
    rw [fa_lt] at h3
    have e : (0 : Int32).toInt = (0 : Int) := rfl
    omega
  · rw [fa_le, nI_toInt (by omega)] at h3
    have e : (nI 0).toInt = (0 : Int) := rfl
    rw [if_neg (by rw [fa_lt]; omega), if_neg (by rw [fa_lt, nI_toInt (by omega)]; omega), if_neg]
    intro q
    have := of_decide_eq_true q
    omega
  · rw [if_neg (nI_nlt (by omega) (by omega)), if_pos (nI_lt h3 (by omega)), if_pos (inr_n h3 (by omega))]
theorem ndle {x : Int32} {n : Nat} {α : Type} {A B : α} (hn : n < 999999) : (if x < nI 0 then B else if x ≤ nI n then A else B) = if inr x (n + 1) = true then A else B := by
  have e : (x ≤ nI n) ↔ x < nI (n + 1) := by
    rw [fa_le, fa_lt, nI_toInt (by omega), nI_toInt (by omega)]
    omega
  rw [← ndl (n := n + 1) (by omega)]
  by_cases c : x ≤ nI n
  · rw [if_pos c, if_pos (e.mp c)]
  · rw [if_neg c, if_neg (fun q => c (e.mpr q))]
section
variable {h : aH} {T : Nat → Nat → Nat} {P Q : Nat}
theorem IV.needPerson (I : IV h T P Q) (x : Int32) : m_X11_needPerson 1 x h = if inr x (T 412 8) = true then some (.inl (), h) else some (.inr "java/lang/IndexOutOfBoundsException", h_exc h) := by
  have d := I.D.nP
  simp (maxSteps := 3000000) (disch := first | assumption | omega) only [m_X11_needPerson, bO_v, bR_v, bX_l, bX_r, bC_l, bC_r, aJ_v, aLet_v, nI_add, pk_mul, dvI_n, rmI_n, iMax_n, iMin_n, zO_0, zO_1, li_0, li_1, li_2, li_3, li_4, li_5, li_6, li_7, li_8, li_9, li_10, li_12, li_14, li_15, li_16, li_18, li_19, li_20, li_22, li_23, li_24, li_26, li_29, li_30, li_31, li_32, li_36, li_38, li_48, li_50, li_57, li_58, li_59, li_60, li_63, li_97, li_99, li_120, li_122, li_144, li_168, li_194, li_240, li_255, li_284, li_299, li_603, li_999, li_1200, li_1440, li_4095, li_4096, li_6030, li_16384, li_20160, zl0, zl1, zl2, zl3, zl4, ze01, ze02, ze03, ze04, ze10, ze12, ze13, ze14, ze20, ze21, ze23, ze24, ze30, ze31, ze32, ze34, ze40, ze41, ze42, ze43, zt0, zt1, zt2, zt3, zt4, zq0, zq1, zq2, zq3, zq4, it_t, it_f, Bool.true_eq_false, Bool.false_eq_true, na5, na4, na1441, na2, na10, sx_IOIA, sx_IOIS, sx_IONS, sx_IAIO, sx_IAIS, sx_IANS, sx_ISIO, sx_ISIA, sx_ISNS, sx_NSIO, sx_NSIA, sx_NSIS, I.g3, p_cP_gi I.sh I.hP, I.y.nP]
  exact ndl (by omega)
theorem IV.needPager (I : IV h T P Q) (x : Int32) : m_X11_needPager 1 x h = if inr x (T 412 9) = true then some (.inl (), h) else some (.inr "java/lang/IndexOutOfBoundsException", h_exc h) := by
  have d := I.D.nG
  simp (maxSteps := 3000000) (disch := first | assumption | omega) only [m_X11_needPager, bO_v, bR_v, bX_l, bX_r, bC_l, bC_r, aJ_v, aLet_v, nI_add, pk_mul, dvI_n, rmI_n, iMax_n, iMin_n, zO_0, zO_1, li_0, li_1, li_2, li_3, li_4, li_5, li_6, li_7, li_8, li_9, li_10, li_12, li_14, li_15, li_16, li_18, li_19, li_20, li_22, li_23, li_24, li_26, li_29, li_30, li_31, li_32, li_36, li_38, li_48, li_50, li_57, li_58, li_59, li_60, li_63, li_97, li_99, li_120, li_122, li_144, li_168, li_194, li_240, li_255, li_284, li_299, li_603, li_999, li_1200, li_1440, li_4095, li_4096, li_6030, li_16384, li_20160, zl0, zl1, zl2, zl3, zl4, ze01, ze02, ze03, ze04, ze10, ze12, ze13, ze14, ze20, ze21, ze23, ze24, ze30, ze31, ze32, ze34, ze40, ze41, ze42, ze43, zt0, zt1, zt2, zt3, zt4, zq0, zq1, zq2, zq3, zq4, it_t, it_f, Bool.true_eq_false, Bool.false_eq_true, na5, na4, na1441, na2, na10, sx_IOIA, sx_IOIS, sx_IONS, sx_IAIO, sx_IAIS, sx_IANS, sx_ISIO, sx_ISIA, sx_ISNS, sx_NSIO, sx_NSIA, sx_NSIS, I.g3, p_cP_gi I.sh I.hP, I.y.nG]
  exact ndl (by omega)
theorem IV.needEngine (I : IV h T P Q) (x : Int32) : m_X11_needEngine 1 x h = if inr x (T 412 10) = true then some (.inl (), h) else some (.inr "java/lang/IndexOutOfBoundsException", h_exc h) := by
  have d := I.D.nE
  simp (maxSteps := 3000000) (disch := first | assumption | omega) only [m_X11_needEngine, bO_v, bR_v, bX_l, bX_r, bC_l, bC_r, aJ_v, aLet_v, nI_add, pk_mul, dvI_n, rmI_n, iMax_n, iMin_n, zO_0, zO_1, li_0, li_1, li_2, li_3, li_4, li_5, li_6, li_7, li_8, li_9, li_10, li_12, li_14, li_15, li_16, li_18, li_19, li_20, li_22, li_23, li_24, li_26, li_29, li_30, li_31, li_32, li_36, li_38, li_48, li_50, li_57, li_58, li_59, li_60, li_63, li_97, li_99, li_120, li_122, li_144, li_168, li_194, li_240, li_255, li_284, li_299, li_603, li_999, li_1200, li_1440, li_4095, li_4096, li_6030, li_16384, li_20160, zl0, zl1, zl2, zl3, zl4, ze01, ze02, ze03, ze04, ze10, ze12, ze13, ze14, ze20, ze21, ze23, ze24, ze30, ze31, ze32, ze34, ze40, ze41, ze42, ze43, zt0, zt1, zt2, zt3, zt4, zq0, zq1, zq2, zq3, zq4, it_t, it_f, Bool.true_eq_false, Bool.false_eq_true, na5, na4, na1441, na2, na10, sx_IOIA, sx_IOIS, sx_IONS, sx_IAIO, sx_IAIS, sx_IANS, sx_ISIO, sx_ISIA, sx_ISNS, sx_NSIO, sx_NSIA, sx_NSIS, I.g3, p_cP_gi I.sh I.hP, I.y.nE]
  exact ndl (by omega)
theorem IV.needKind (I : IV h T P Q) (x : Int32) : m_X11_needKind 1 x h = if inr x (T 412 11) = true then some (.inl (), h) else some (.inr "java/lang/IndexOutOfBoundsException", h_exc h) := by
  have d := I.D.nK
  simp (maxSteps := 3000000) (disch := first | assumption | omega) only [m_X11_needKind, bO_v, bR_v, bX_l, bX_r, bC_l, bC_r, aJ_v, aLet_v, nI_add, pk_mul, dvI_n, rmI_n, iMax_n, iMin_n, zO_0, zO_1, li_0, li_1, li_2, li_3, li_4, li_5, li_6, li_7, li_8, li_9, li_10, li_12, li_14, li_15, li_16, li_18, li_19, li_20, li_22, li_23, li_24, li_26, li_29, li_30, li_31, li_32, li_36, li_38, li_48, li_50, li_57, li_58, li_59, li_60, li_63, li_97, li_99, li_120, li_122, li_144, li_168, li_194, li_240, li_255, li_284, li_299, li_603, li_999, li_1200, li_1440, li_4095, li_4096, li_6030, li_16384, li_20160, zl0, zl1, zl2, zl3, zl4, ze01, ze02, ze03, ze04, ze10, ze12, ze13, ze14, ze20, ze21, ze23, ze24, ze30, ze31, ze32, ze34, ze40, ze41, ze42, ze43, zt0, zt1, zt2, zt3, zt4, zq0, zq1, zq2, zq3, zq4, it_t, it_f, Bool.true_eq_false, Bool.false_eq_true, na5, na4, na1441, na2, na10, sx_IOIA, sx_IOIS, sx_IONS, sx_IAIO, sx_IAIS, sx_IANS, sx_ISIO, sx_ISIA, sx_ISNS, sx_NSIO, sx_NSIA, sx_NSIS, I.g3, p_cP_gi I.sh I.hP, I.y.nK]
  exact ndl (by omega)
theorem IV.needCall (I : IV h T P Q) (x : Int32) : m_X11_needCall 1 x h = if inr x (T 413 1) = true then some (.inl (), h) else some (.inr "java/lang/IndexOutOfBoundsException", h_exc h) := by
  have d := I.R.many
  have hS := I.sh
  obtain ⟨a, ha, g5, x, -⟩ := I.st
  simp (maxSteps := 3000000) (disch := first | assumption | omega) only [m_X11_needCall, bO_v, bR_v, bX_l, bX_r, bC_l, bC_r, aJ_v, aLet_v, nI_add, pk_mul, dvI_n, rmI_n, iMax_n, iMin_n, zO_0, zO_1, li_0, li_1, li_2, li_3, li_4, li_5, li_6, li_7, li_8, li_9, li_10, li_12, li_14, li_15, li_16, li_18, li_19, li_20, li_22, li_23, li_24, li_26, li_29, li_30, li_31, li_32, li_36, li_38, li_48, li_50, li_57, li_58, li_59, li_60, li_63, li_97, li_99, li_120, li_122, li_144, li_168, li_194, li_240, li_255, li_284, li_299, li_603, li_999, li_1200, li_1440, li_4095, li_4096, li_6030, li_16384, li_20160, zl0, zl1, zl2, zl3, zl4, ze01, ze02, ze03, ze04, ze10, ze12, ze13, ze14, ze20, ze21, ze23, ze24, ze30, ze31, ze32, ze34, ze40, ze41, ze42, ze43, zt0, zt1, zt2, zt3, zt4, zq0, zq1, zq2, zq3, zq4, it_t, it_f, Bool.true_eq_false, Bool.false_eq_true, na5, na4, na1441, na2, na10, sx_IOIA, sx_IOIS, sx_IONS, sx_IAIO, sx_IAIS, sx_IANS, sx_ISIO, sx_ISIA, sx_ISNS, sx_NSIO, sx_NSIA, sx_NSIS, g5, s_cS_gi hS ha, s_cS_gL hS ha, s_cS_pi hS ha, s_cS_pL hS ha, s_cS_gS hS ha, s_clost_al hS ha, s_clost_as hS ha, s_clost_ln hS ha, s_cout_al hS ha, s_cout_as hS ha, s_cout_ln hS ha, s_cpaid_al hS ha, s_cpaid_as hS ha, s_cpaid_ln hS ha, s_ctrust_al hS ha, s_ctrust_as hS ha, s_ctrust_ln hS ha, s_crot_al hS ha, s_crot_as hS ha, s_crot_ln hS ha, s_chands_al hS ha, s_chands_as hS ha, s_chands_ln hS ha, s_cto_al hS ha, s_cto_as hS ha, s_cto_ln hS ha, s_cends_al hS ha, s_cends_as hS ha, s_cends_ln hS ha, s_cret_al hS ha, s_cret_as hS ha, s_cret_ln hS ha, s_ccrew_al hS ha, s_ccrew_as hS ha, s_ccrew_ln hS ha, s_cL_gi hS ha, s_cL_gL hS ha, s_cL_pi hS ha, s_cL_pL hS ha, s_cL_gS hS ha, s_clcosts_al hS ha, s_clcosts_as hS ha, s_clcosts_ln hS ha, s_clcomers_al hS ha, s_clcomers_as hS ha, s_clcomers_ln hS ha, s_clleavers_al hS ha, s_clleavers_as hS ha, s_clleavers_ln hS ha, s_clengs_al hS ha, s_clengs_as hS ha, s_clengs_ln hS ha, s_cltimes_al hS ha, s_cltimes_as hS ha, s_cltimes_ln hS ha, s_clcrews_al hS ha, s_clcrews_as hS ha, s_clcrews_ln hS ha, s_cbest_al hS ha, s_cbest_as hS ha, s_cbest_ln hS ha, s_plost hS ha, s_pout hS ha, s_ppaid hS ha, s_ptrust hS ha, s_prot hS ha, s_phands hS ha, s_pto hS ha, s_pends hS ha, s_pret hS ha, s_pcrew hS ha, s_plog hS ha, s_plcosts hS ha, s_plcomers hS ha, s_plleavers hS ha, s_plengs hS ha, s_pltimes hS ha, s_plcrews hS ha, s_pbest hS ha, x.many]
  exact ndl (by omega)
theorem IV.needPlace (I : IV h T P Q) {g : Nat} (hg : g < T 412 9) (x : Int32) : m_X11_needPlace 1 (nI g) x h = if inr x (T 424 g) = true then some (.inl (), h) else some (.inr "java/lang/IndexOutOfBoundsException", h_exc h) := by
  have d := I.D.nG
  have d2 := I.D.plc g hg
  have hS := I.sh
  have hP := I.hP
  simp (maxSteps := 3000000) (disch := first | assumption | omega) only [m_X11_needPlace, bO_v, bR_v, bX_l, bX_r, bC_l, bC_r, aJ_v, aLet_v, nI_add, pk_mul, dvI_n, rmI_n, iMax_n, iMin_n, zO_0, zO_1, li_0, li_1, li_2, li_3, li_4, li_5, li_6, li_7, li_8, li_9, li_10, li_12, li_14, li_15, li_16, li_18, li_19, li_20, li_22, li_23, li_24, li_26, li_29, li_30, li_31, li_32, li_36, li_38, li_48, li_50, li_57, li_58, li_59, li_60, li_63, li_97, li_99, li_120, li_122, li_144, li_168, li_194, li_240, li_255, li_284, li_299, li_603, li_999, li_1200, li_1440, li_4095, li_4096, li_6030, li_16384, li_20160, zl0, zl1, zl2, zl3, zl4, ze01, ze02, ze03, ze04, ze10, ze12, ze13, ze14, ze20, ze21, ze23, ze24, ze30, ze31, ze32, ze34, ze40, ze41, ze42, ze43, zt0, zt1, zt2, zt3, zt4, zq0, zq1, zq2, zq3, zq4, it_t, it_f, Bool.true_eq_false, Bool.false_eq_true, na5, na4, na1441, na2, na10, sx_IOIA, sx_IOIS, sx_IONS, sx_IAIO, sx_IAIS, sx_IANS, sx_ISIO, sx_ISIA, sx_ISNS, sx_NSIO, sx_NSIA, sx_NSIS, I.g3, p_cP_gi hS hP, p_cP_gL hS hP, p_cP_pi hS hP, p_cP_pL hS hP, p_cP_gS hS hP, p_cN_gi hS hP, p_cN_gL hS hP, p_cN_pi hS hP, p_cN_pL hS hP, p_cN_gS hS hP, p_cps_ln hS hP, p_ctr_al hS hP, p_ctr_as hS hP, p_ctr_ln hS hP, p_cgs_ln hS hP, p_ces_ln hS hP, p_cks_ln hS hP, p_cable_al hS hP, p_cable_as hS hP, p_cable_ln hS hP, p_pN hS hP, p_pps hS hP, p_ptr hS hP, p_pgs hS hP, p_pes hS hP, p_pks hS hP, p_pable hS hP, p_ep_al hS hP, p_ep_gi hS hP, p_ep_gL hS hP, p_ep_pi hS hP, p_ep_pL hS hP, p_ep_gS hS hP, p_eg_al hS hP, p_eg_gi hS hP, p_eg_gL hS hP, p_eg_pi hS hP, p_eg_pL hS hP, p_eg_gS hS hP, p_egr_p hS hP, p_egr_al hS hP, p_egr_as hS hP, p_egr_ln hS hP, p_ee_al hS hP, p_ee_gi hS hP, p_ee_gL hS hP, p_ee_pi hS hP, p_ee_pL hS hP, p_ee_gS hS hP, p_ees_p hS hP, p_ees_al hS hP, p_ees_as hS hP, p_ees_ln hS hP, p_eed_p hS hP, p_eed_al hS hP, p_eed_as hS hP, p_eed_ln hS hP, p_ek_al hS hP, p_ek_gi hS hP, p_ek_gL hS hP, p_ek_pi hS hP, p_ek_pL hS hP, p_ek_gS hS hP, p_ekg_p hS hP, p_ekg_al hS hP, p_ekg_as hS hP, p_ekg_ln hS hP, p_eke_p hS hP, p_eke_al hS hP, p_eke_as hS hP, p_eke_ln hS hP, I.y.plc g hg]
  exact ndl (by omega)
theorem IV.needKindEngine (I : IV h T P Q) (x u : Int32) : m_X11_needKindEngine 1 x u h = if inr x (T 412 11) = true ∧ inr u (T 433 x.toNatClampNeg) = true then some (.inl (), h) else some (.inr "java/lang/IndexOutOfBoundsException", h_exc h) := by
  have d := I.D.nK
  have hS := I.sh
  have hP := I.hP
  cases c : inr x (T 412 11)
  · simp (maxSteps := 3000000) (disch := first | assumption | omega) only [m_X11_needKindEngine, bO_v, bR_v, bX_l, bX_r, bC_l, bC_r, aJ_v, aLet_v, nI_add, pk_mul, dvI_n, rmI_n, iMax_n, iMin_n, zO_0, zO_1, li_0, li_1, li_2, li_3, li_4, li_5, li_6, li_7, li_8, li_9, li_10, li_12, li_14, li_15, li_16, li_18, li_19, li_20, li_22, li_23, li_24, li_26, li_29, li_30, li_31, li_32, li_36, li_38, li_48, li_50, li_57, li_58, li_59, li_60, li_63, li_97, li_99, li_120, li_122, li_144, li_168, li_194, li_240, li_255, li_284, li_299, li_603, li_999, li_1200, li_1440, li_4095, li_4096, li_6030, li_16384, li_20160, zl0, zl1, zl2, zl3, zl4, ze01, ze02, ze03, ze04, ze10, ze12, ze13, ze14, ze20, ze21, ze23, ze24, ze30, ze31, ze32, ze34, ze40, ze41, ze42, ze43, zt0, zt1, zt2, zt3, zt4, zq0, zq1, zq2, zq3, zq4, it_t, it_f, Bool.true_eq_false, Bool.false_eq_true, na5, na4, na1441, na2, na10, sx_IOIA, sx_IOIS, sx_IONS, sx_IAIO, sx_IAIS, sx_IANS, sx_ISIO, sx_ISIA, sx_ISNS, sx_NSIO, sx_NSIA, sx_NSIS, c_cX_gS hS, I.needKind, c]
    simp
  · obtain ⟨k, hk, rfl⟩ := inr_t c (by omega)
    have d2 := I.D.ken k hk
    have e1 : (nI k).toNatClampNeg = k := nI_clamp (by omega)
    simp (maxSteps := 3000000) (disch := first | assumption | omega) only [m_X11_needKindEngine, bO_v, bR_v, bX_l, bX_r, bC_l, bC_r, aJ_v, aLet_v, nI_add, pk_mul, dvI_n, rmI_n, iMax_n, iMin_n, zO_0, zO_1, li_0, li_1, li_2, li_3, li_4, li_5, li_6, li_7, li_8, li_9, li_10, li_12, li_14, li_15, li_16, li_18, li_19, li_20, li_22, li_23, li_24, li_26, li_29, li_30, li_31, li_32, li_36, li_38, li_48, li_50, li_57, li_58, li_59, li_60, li_63, li_97, li_99, li_120, li_122, li_144, li_168, li_194, li_240, li_255, li_284, li_299, li_603, li_999, li_1200, li_1440, li_4095, li_4096, li_6030, li_16384, li_20160, zl0, zl1, zl2, zl3, zl4, ze01, ze02, ze03, ze04, ze10, ze12, ze13, ze14, ze20, ze21, ze23, ze24, ze30, ze31, ze32, ze34, ze40, ze41, ze42, ze43, zt0, zt1, zt2, zt3, zt4, zq0, zq1, zq2, zq3, zq4, it_t, it_f, Bool.true_eq_false, Bool.false_eq_true, na5, na4, na1441, na2, na10, sx_IOIA, sx_IOIS, sx_IONS, sx_IAIO, sx_IAIS, sx_IANS, sx_ISIO, sx_ISIA, sx_ISNS, sx_NSIO, sx_NSIA, sx_NSIS, c_cX_gS hS, I.needKind, c, I.g3, p_cP_gi hS hP, p_cP_gL hS hP, p_cP_pi hS hP, p_cP_pL hS hP, p_cP_gS hS hP, p_cN_gi hS hP, p_cN_gL hS hP, p_cN_pi hS hP, p_cN_pL hS hP, p_cN_gS hS hP, p_cps_ln hS hP, p_ctr_al hS hP, p_ctr_as hS hP, p_ctr_ln hS hP, p_cgs_ln hS hP, p_ces_ln hS hP, p_cks_ln hS hP, p_cable_al hS hP, p_cable_as hS hP, p_cable_ln hS hP, p_pN hS hP, p_pps hS hP, p_ptr hS hP, p_pgs hS hP, p_pes hS hP, p_pks hS hP, p_pable hS hP, p_ep_al hS hP, p_ep_gi hS hP, p_ep_gL hS hP, p_ep_pi hS hP, p_ep_pL hS hP, p_ep_gS hS hP, p_eg_al hS hP, p_eg_gi hS hP, p_eg_gL hS hP, p_eg_pi hS hP, p_eg_pL hS hP, p_eg_gS hS hP, p_egr_p hS hP, p_egr_al hS hP, p_egr_as hS hP, p_egr_ln hS hP, p_ee_al hS hP, p_ee_gi hS hP, p_ee_gL hS hP, p_ee_pi hS hP, p_ee_pL hS hP, p_ee_gS hS hP, p_ees_p hS hP, p_ees_al hS hP, p_ees_as hS hP, p_ees_ln hS hP, p_eed_p hS hP, p_eed_al hS hP, p_eed_as hS hP, p_eed_ln hS hP, p_ek_al hS hP, p_ek_gi hS hP, p_ek_gL hS hP, p_ek_pi hS hP, p_ek_pL hS hP, p_ek_gS hS hP, p_ekg_p hS hP, p_ekg_al hS hP, p_ekg_as hS hP, p_ekg_ln hS hP, p_eke_p hS hP, p_eke_al hS hP, p_eke_as hS hP, p_eke_ln hS hP, I.y.ken k hk, e1, ndl, true_and]
theorem IV.needLeaver (I : IV h T P Q) (x u : Int32) : m_X11_needLeaver 1 x u h = if inr x (T 413 1) = true ∧ inr u (T 413 (299 + 19 * x.toNatClampNeg + 3)) = true then some (.inl (), h) else some (.inr "java/lang/IndexOutOfBoundsException", h_exc h) := by
  have d := I.R.many
  have hS := I.sh
  obtain ⟨a, ha, g5, X, -⟩ := I.st
  cases c : inr x (T 413 1)
  · simp (maxSteps := 3000000) (disch := first | assumption | omega) only [m_X11_needLeaver, bO_v, bR_v, bX_l, bX_r, bC_l, bC_r, aJ_v, aLet_v, nI_add, pk_mul, dvI_n, rmI_n, iMax_n, iMin_n, zO_0, zO_1, li_0, li_1, li_2, li_3, li_4, li_5, li_6, li_7, li_8, li_9, li_10, li_12, li_14, li_15, li_16, li_18, li_19, li_20, li_22, li_23, li_24, li_26, li_29, li_30, li_31, li_32, li_36, li_38, li_48, li_50, li_57, li_58, li_59, li_60, li_63, li_97, li_99, li_120, li_122, li_144, li_168, li_194, li_240, li_255, li_284, li_299, li_603, li_999, li_1200, li_1440, li_4095, li_4096, li_6030, li_16384, li_20160, zl0, zl1, zl2, zl3, zl4, ze01, ze02, ze03, ze04, ze10, ze12, ze13, ze14, ze20, ze21, ze23, ze24, ze30, ze31, ze32, ze34, ze40, ze41, ze42, ze43, zt0, zt1, zt2, zt3, zt4, zq0, zq1, zq2, zq3, zq4, it_t, it_f, Bool.true_eq_false, Bool.false_eq_true, na5, na4, na1441, na2, na10, sx_IOIA, sx_IOIS, sx_IONS, sx_IAIO, sx_IAIS, sx_IANS, sx_ISIO, sx_ISIA, sx_ISNS, sx_NSIO, sx_NSIA, sx_NSIS, c_cX_gS hS, I.needCall, c]
    simp
  · obtain ⟨k, hk, rfl⟩ := inr_t c (by omega)
    have d2 := I.R.left k hk
    have e1 : (nI k).toNatClampNeg = k := nI_clamp (by omega)
    simp (maxSteps := 3000000) (disch := first | assumption | omega) only [m_X11_needLeaver, bO_v, bR_v, bX_l, bX_r, bC_l, bC_r, aJ_v, aLet_v, nI_add, pk_mul, dvI_n, rmI_n, iMax_n, iMin_n, zO_0, zO_1, li_0, li_1, li_2, li_3, li_4, li_5, li_6, li_7, li_8, li_9, li_10, li_12, li_14, li_15, li_16, li_18, li_19, li_20, li_22, li_23, li_24, li_26, li_29, li_30, li_31, li_32, li_36, li_38, li_48, li_50, li_57, li_58, li_59, li_60, li_63, li_97, li_99, li_120, li_122, li_144, li_168, li_194, li_240, li_255, li_284, li_299, li_603, li_999, li_1200, li_1440, li_4095, li_4096, li_6030, li_16384, li_20160, zl0, zl1, zl2, zl3, zl4, ze01, ze02, ze03, ze04, ze10, ze12, ze13, ze14, ze20, ze21, ze23, ze24, ze30, ze31, ze32, ze34, ze40, ze41, ze42, ze43, zt0, zt1, zt2, zt3, zt4, zq0, zq1, zq2, zq3, zq4, it_t, it_f, Bool.true_eq_false, Bool.false_eq_true, na5, na4, na1441, na2, na10, sx_IOIA, sx_IOIS, sx_IONS, sx_IAIO, sx_IAIS, sx_IANS, sx_ISIO, sx_ISIA, sx_ISNS, sx_NSIO, sx_NSIA, sx_NSIS, c_cX_gS hS, I.needCall, c, g5, s_cS_gi hS ha, s_cS_gL hS ha, s_cS_pi hS ha, s_cS_pL hS ha, s_cS_gS hS ha, s_clost_al hS ha, s_clost_as hS ha, s_clost_ln hS ha, s_cout_al hS ha, s_cout_as hS ha, s_cout_ln hS ha, s_cpaid_al hS ha, s_cpaid_as hS ha, s_cpaid_ln hS ha, s_ctrust_al hS ha, s_ctrust_as hS ha, s_ctrust_ln hS ha, s_crot_al hS ha, s_crot_as hS ha, s_crot_ln hS ha, s_chands_al hS ha, s_chands_as hS ha, s_chands_ln hS ha, s_cto_al hS ha, s_cto_as hS ha, s_cto_ln hS ha, s_cends_al hS ha, s_cends_as hS ha, s_cends_ln hS ha, s_cret_al hS ha, s_cret_as hS ha, s_cret_ln hS ha, s_ccrew_al hS ha, s_ccrew_as hS ha, s_ccrew_ln hS ha, s_cL_gi hS ha, s_cL_gL hS ha, s_cL_pi hS ha, s_cL_pL hS ha, s_cL_gS hS ha, s_clcosts_al hS ha, s_clcosts_as hS ha, s_clcosts_ln hS ha, s_clcomers_al hS ha, s_clcomers_as hS ha, s_clcomers_ln hS ha, s_clleavers_al hS ha, s_clleavers_as hS ha, s_clleavers_ln hS ha, s_clengs_al hS ha, s_clengs_as hS ha, s_clengs_ln hS ha, s_cltimes_al hS ha, s_cltimes_as hS ha, s_cltimes_ln hS ha, s_clcrews_al hS ha, s_clcrews_as hS ha, s_clcrews_ln hS ha, s_cbest_al hS ha, s_cbest_as hS ha, s_cbest_ln hS ha, s_plost hS ha, s_pout hS ha, s_ppaid hS ha, s_ptrust hS ha, s_prot hS ha, s_phands hS ha, s_pto hS ha, s_pends hS ha, s_pret hS ha, s_pcrew hS ha, s_plog hS ha, s_plcosts hS ha, s_plcomers hS ha, s_plleavers hS ha, s_plengs hS ha, s_pltimes hS ha, s_plcrews hS ha, s_pbest hS ha, X.left k hk, e1, ndl, true_and]
theorem IV.needTwo (I : IV h T P Q) (x u : Int32) : m_X11_needTwoPersons 1 x u h = if inr x (T 412 8) = true ∧ inr u (T 412 8) = true then (if x = u then some (.inr "java/lang/IllegalArgumentException", h_exc h) else some (.inl (), h)) else some (.inr "java/lang/IndexOutOfBoundsException", h_exc h) := by
  have hS := I.sh
  cases c : inr x (T 412 8)
  · simp (maxSteps := 3000000) (disch := first | assumption | omega) only [m_X11_needTwoPersons, bO_v, bR_v, bX_l, bX_r, bC_l, bC_r, aJ_v, aLet_v, nI_add, pk_mul, dvI_n, rmI_n, iMax_n, iMin_n, zO_0, zO_1, li_0, li_1, li_2, li_3, li_4, li_5, li_6, li_7, li_8, li_9, li_10, li_12, li_14, li_15, li_16, li_18, li_19, li_20, li_22, li_23, li_24, li_26, li_29, li_30, li_31, li_32, li_36, li_38, li_48, li_50, li_57, li_58, li_59, li_60, li_63, li_97, li_99, li_120, li_122, li_144, li_168, li_194, li_240, li_255, li_284, li_299, li_603, li_999, li_1200, li_1440, li_4095, li_4096, li_6030, li_16384, li_20160, zl0, zl1, zl2, zl3, zl4, ze01, ze02, ze03, ze04, ze10, ze12, ze13, ze14, ze20, ze21, ze23, ze24, ze30, ze31, ze32, ze34, ze40, ze41, ze42, ze43, zt0, zt1, zt2, zt3, zt4, zq0, zq1, zq2, zq3, zq4, it_t, it_f, Bool.true_eq_false, Bool.false_eq_true, na5, na4, na1441, na2, na10, sx_IOIA, sx_IOIS, sx_IONS, sx_IAIO, sx_IAIS, sx_IANS, sx_ISIO, sx_ISIA, sx_ISNS, sx_NSIO, sx_NSIA, sx_NSIS, c_cX_gS hS, I.needPerson, c, false_and]
  · cases c2 : inr u (T 412 8)
    · simp (maxSteps := 3000000) (disch := first | assumption | omega) only [m_X11_needTwoPersons, bO_v, bR_v, bX_l, bX_r, bC_l, bC_r, aJ_v, aLet_v, nI_add, pk_mul, dvI_n, rmI_n, iMax_n, iMin_n, zO_0, zO_1, li_0, li_1, li_2, li_3, li_4, li_5, li_6, li_7, li_8, li_9, li_10, li_12, li_14, li_15, li_16, li_18, li_19, li_20, li_22, li_23, li_24, li_26, li_29, li_30, li_31, li_32, li_36, li_38, li_48, li_50, li_57, li_58, li_59, li_60, li_63, li_97, li_99, li_120, li_122, li_144, li_168, li_194, li_240, li_255, li_284, li_299, li_603, li_999, li_1200, li_1440, li_4095, li_4096, li_6030, li_16384, li_20160, zl0, zl1, zl2, zl3, zl4, ze01, ze02, ze03, ze04, ze10, ze12, ze13, ze14, ze20, ze21, ze23, ze24, ze30, ze31, ze32, ze34, ze40, ze41, ze42, ze43, zt0, zt1, zt2, zt3, zt4, zq0, zq1, zq2, zq3, zq4, it_t, it_f, Bool.true_eq_false, Bool.false_eq_true, na5, na4, na1441, na2, na10, sx_IOIA, sx_IOIS, sx_IONS, sx_IAIO, sx_IAIS, sx_IANS, sx_ISIO, sx_ISIA, sx_ISNS, sx_NSIO, sx_NSIA, sx_NSIS, c_cX_gS hS, I.needPerson, c, c2, and_false]
    · simp (maxSteps := 3000000) (disch := first | assumption | omega) only [m_X11_needTwoPersons, bO_v, bR_v, bX_l, bX_r, bC_l, bC_r, aJ_v, aLet_v, nI_add, pk_mul, dvI_n, rmI_n, iMax_n, iMin_n, zO_0, zO_1, li_0, li_1, li_2, li_3, li_4, li_5, li_6, li_7, li_8, li_9, li_10, li_12, li_14, li_15, li_16, li_18, li_19, li_20, li_22, li_23, li_24, li_26, li_29, li_30, li_31, li_32, li_36, li_38, li_48, li_50, li_57, li_58, li_59, li_60, li_63, li_97, li_99, li_120, li_122, li_144, li_168, li_194, li_240, li_255, li_284, li_299, li_603, li_999, li_1200, li_1440, li_4095, li_4096, li_6030, li_16384, li_20160, zl0, zl1, zl2, zl3, zl4, ze01, ze02, ze03, ze04, ze10, ze12, ze13, ze14, ze20, ze21, ze23, ze24, ze30, ze31, ze32, ze34, ze40, ze41, ze42, ze43, zt0, zt1, zt2, zt3, zt4, zq0, zq1, zq2, zq3, zq4, it_t, it_f, Bool.true_eq_false, Bool.false_eq_true, na5, na4, na1441, na2, na10, sx_IOIA, sx_IOIS, sx_IONS, sx_IAIO, sx_IAIS, sx_IANS, sx_ISIO, sx_ISIA, sx_ISNS, sx_NSIO, sx_NSIA, sx_NSIS, c_cX_gS hS, I.needPerson, c, c2, and_true]
end
