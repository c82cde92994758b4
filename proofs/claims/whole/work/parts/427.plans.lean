/-! what the reference foresees -/
/-- nothing but these ints was written -/
def Fx (A : Nat → Nat → Prop) (h h' : aH) : Prop := h_nx h' = h_nx h ∧ h_sl h' = h_sl h ∧ h_sh h' = h_sh h ∧ h_ln h' = h_ln h ∧ h_rv h' = h_rv h ∧ h_lv h' = h_lv h ∧ ∀ o k, ¬ A o k → h_iv h' o k = h_iv h o k
theorem Fx.rf {A : Nat → Nat → Prop} {h : aH} : Fx A h h := ⟨rfl, rfl, rfl, rfl, rfl, rfl, fun _ _ _ => rfl⟩
theorem Fx.trans {A : Nat → Nat → Prop} {h h1 h2 : aH} (x : Fx A h h1) (y : Fx A h1 h2) : Fx A h h2 := ⟨y.1.trans x.1, y.2.1.trans x.2.1, y.2.2.1.trans x.2.2.1, y.2.2.2.1.trans x.2.2.2.1, y.2.2.2.2.1.trans x.2.2.2.2.1, y.2.2.2.2.2.1.trans x.2.2.2.2.2.1, fun o k ho => (y.2.2.2.2.2.2 o k ho).trans (x.2.2.2.2.2.2 o k ho)⟩
theorem Fx.mono {A B : Nat → Nat → Prop} {h h1 : aH} (x : Fx A h h1) (hAB : ∀ o k, A o k → B o k) : Fx B h h1 := ⟨x.1, x.2.1, x.2.2.1, x.2.2.2.1, x.2.2.2.2.1, x.2.2.2.2.2.1, fun o k ho => x.2.2.2.2.2.2 o k (fun q => ho (hAB o k q))⟩
theorem Fx.si {A : Nat → Nat → Prop} {h : aH} {o k : Nat} {x : Int32} (ho : A o k) : Fx A h (h_si h o k x) := ⟨rfl, rfl, rfl, rfl, rfl, rfl, fun q j hq => si_ne (fun e => hq (by rw [e.1, e.2]; exact ho))⟩
theorem Fr.fx {A : Nat → Prop} {h h1 : aH} (x : Fr A h h1) : Fx (fun o _ => A o) h h1 := ⟨x.1, x.2.1, x.2.2.1, x.2.2.2.1, x.2.2.2.2.1, x.2.2.2.2.2.1, fun o k ho => by rw [x.iv ho]⟩
theorem Fx.sh {A : Nat → Nat → Prop} {h h' : aH} (x : Fx A h h') (hS : Sh h) : Sh h' := by
  obtain ⟨x1, x2, x3, x4, x5, -⟩ := x
  refine ⟨?_, fun q hq => ?_, fun q hq => ?_⟩
  · rw [x1]; exact hS.1
  · rw [x3, x4]; exact hS.2.1 q hq
  · rw [x5]; exact hS.2.2 q hq
theorem Fx.iv {A : Nat → Nat → Prop} {h h' : aH} (x : Fx A h h') {o k : Nat} (ho : ¬ A o k) : h_iv h' o k = h_iv h o k := x.2.2.2.2.2.2 o k ho
theorem RefR.fx {A : Nat → Nat → Prop} {h h' : aH} {T : Nat → Nat → Nat} (z : RefR h T) (x : Fx A h h') (hA : ∀ o k, rfC o k → ¬ A o k) : RefR h' T := ⟨fun o k q => by rw [x.iv (hA o k q)]; exact z.1 o k q, z.2⟩
def hlds (T : Nat → Nat → Nat) (S : Nat → Nat) (k p : Nat) : Bool := anyB (fun j => decide (link T S (T 432 (6 * k + j)) (S (194 + 15 * T 432 (6 * k + j) + 8)) = p)) (T 431 k)
/-- why a person would be absent -/
def absn (T : Nat → Nat → Nat) (S : Nat → Nat) (k p : Nat) : Nat := if hlds T S k p = false then 1 else if S (26 + p) ≠ 0 then 2 else if isO S p then 3 else if isT T S p then 4 else if arr T S p ≤ T 429 k then 0 else 5
def com (T : Nat → Nat → Nat) (S : Nat → Nat) (k : Nat) : Nat := mk (fun p => decide (absn T S k p = 0)) (T 412 8)
def enK (T : Nat → Nat → Nat) (k i : Nat) : Nat := T 434 (5 * k + i)
def tyE (T : Nat → Nat → Nat) (e : Nat) : Nat → Nat := fun j => ptyp (T 427 (6 * e + j))
def crwE (T : Nat → Nat → Nat) (S : Nat → Nat) (e A : Nat) : Nat := crw (tyE T e) (Kc T) (arr T S) (T 426 e) (T 412 8) A
def rstd (S : Nat → Nat) (e : Nat) : Bool := decide (S (284 + 3 * e + 1) ≠ 0)
def eout (S : Nat → Nat) (e : Nat) : Bool := decide (S 0 < S (284 + 3 * e))
def ldf (A c : Nat) : Nat := mk (fun p => A.testBit p && !c.testBit p) 12
def plC (T : Nat → Nat → Nat) (S : Nat → Nat) (k A i : Nat) : Nat := if rstd S (enK T k i) || eout S (enK T k i) then 0 else crwE T S (enK T k i) A
def plF (T : Nat → Nat → Nat) (S : Nat → Nat) (k : Nat) : Nat → Nat
  | 0 => com T S k
  | i + 1 => ldf (plF T S k i) (plC T S k (plF T S k i) i)
def plS (T : Nat → Nat → Nat) (S : Nat → Nat) (k A i : Nat) : Nat := if rstd S (enK T k i) then 1 else if eout S (enK T k i) then 2 else if plC T S k A i = 0 then 3 else 0
def plV (T : Nat → Nat → Nat) (S : Nat → Nat) (k : Nat) : Nat → Nat
  | 0 => 0
  | i + 1 => plV T S k i + (if plC T S k (plF T S k i) i = 0 then 0 else 1)
theorem m1_is : -nI 1 = nI 4294967295 := by decide
theorem ldf_is {A c : Nat} (hA : A < 4096) : nI A &&& (nI c ^^^ -nI 1) = nI (ldf A c) := by
  rw [m1_is, fb_xorI, fa_and]
  congr 1
  refine Nat.eq_of_testBit_eq (fun i => ?_)
  have e : (4294967295 : Nat).testBit i = decide (i < 32) := Nat.testBit_two_pow_sub_one (n := 32) (i := i)
  rw [Nat.testBit_and, Nat.testBit_xor, e]
  unfold ldf
  rw [mk_bit]
  by_cases h : i < 12
  · rw [decide_eq_true h, decide_eq_true (show i < 32 by omega)]
    simp
  · rw [Nat.testBit_lt_two_pow (Nat.lt_of_lt_of_le hA (show 2 ^ 12 ≤ 2 ^ i from Nat.pow_le_pow_right (by decide) (by omega))), decide_eq_false h]
    simp
theorem ldf_bit {A c p : Nat} (hA : A < 4096) : (ldf A c).testBit p = (A.testBit p && !c.testBit p) := by
  unfold ldf
  rw [mk_bit]
  by_cases h : p < 12
  · rw [decide_eq_true h, Bool.true_and]
  · rw [Nat.testBit_lt_two_pow (Nat.lt_of_lt_of_le hA (show 2 ^ 12 ≤ 2 ^ p from Nat.pow_le_pow_right (by decide) (by omega))), decide_eq_false h]
    rfl
section
variable {h : aH} {T : Nat → Nat → Nat}
theorem plF_lt (hD : PlD T) (S : Nat → Nat) (k : Nat) : ∀ i, plF T S k i < 2 ^ T 412 8
  | 0 => mk_lt _
  | i + 1 => by
    have ih := plF_lt hD S k i
    have h12 := two_pow_lt hD.nP ih
    refine sub_lt (b := plF T S k i) (fun p hp => ?_) ih
    rw [plF, ldf_bit h12, Bool.and_eq_true] at hp
    exact hp.1
theorem crwE_sub (hD : PlD T) {S : Nat → Nat} {e A : Nat} (he : e < T 412 10) (hA : A < 2 ^ T 412 8) : sub (crwE T S e A) A := by
  have d2 := hD.pst e he
  by_cases hr : rk (tyE T e) (Kc T) (T 426 e) A < T 426 e
  · unfold crwE crw
    rw [if_pos hr]
    exact fun p hp => by rw [Nat.zero_testBit] at hp; cases hp
  · exact (crw_best (fun k => ptyp_lt _) (by omega) hD.nP hA (fun p hp => by have := arr_lt hD (S := S) hp; omega) hr).1
theorem plC_lt (hD : PlD T) {S : Nat → Nat} {k A i : Nat} (hk : k < T 412 11) (hi : i < T 433 k) (hA : A < 2 ^ T 412 8) : plC T S k A i < 2 ^ T 412 8 := by
  unfold plC
  split
  · exact Nat.two_pow_pos _
  · exact sub_lt (crwE_sub hD (hD.ke k hk i hi) hA) hA
theorem r_absent (hS : Sh h) (z : RefR h T) (hD : PlD T) (hR : RwD T (T 413)) {k p : Nat} (hk : k < T 412 11) (hp : p < T 412 8) : m_X12_absent 412 (nI k) (nI p) h = some (nI (absn T (T 413) k p), h) := by
  have d0 := hD.nP
  have d1 := hD.nK
  have d2 := hD.kgn k hk
  have d3 := hD.nG
  have d4 := hD.pat k hk
  have r0 := hR.tm
  simp only [m_X12_absent, aJ_v]
  refine aL2_run (R := fun o => o = some (nI (absn T (T 413) k p), h)) (fun m s1 s2 h1 => h1 = h ∧ ∃ i, i ≤ T 431 k ∧ m = T 431 k - i ∧ s2 = nI i ∧ s1 = b2i (anyB (fun j => decide (link T (T 413) (T 432 (6 * k + j)) (T 413 (194 + 15 * T 432 (6 * k + j) + 8)) = p)) i)) ⟨rfl, 0, Nat.zero_le _, rfl, rfl, rfl⟩ (by omega) ?_
  rintro rec m s1 s2 h1 ⟨rfl, i, hi, rfl, rfl, rfl⟩ ih
  by_cases hlt : i < T 431 k
  · have g1 := hD.kg k hk i hlt
    have hl := link_lt hD hR g1 (Nat.le_refl _)
    simp (maxSteps := 3000000) (disch := first | assumption | omega) only [m_X12_absent_L5, bO_v, bR_v, bX_l, bX_r, bC_l, bC_r, aJ_v, aLet_v, nI_add, pk_mul, dvI_n, rmI_n, iMax_n, iMin_n, zO_0, zO_1, li_0, li_1, li_2, li_3, li_4, li_5, li_6, li_7, li_8, li_9, li_10, li_12, li_14, li_15, li_16, li_18, li_19, li_20, li_22, li_23, li_24, li_26, li_29, li_30, li_31, li_32, li_36, li_38, li_48, li_50, li_57, li_58, li_59, li_60, li_63, li_97, li_99, li_120, li_122, li_144, li_168, li_194, li_240, li_255, li_284, li_299, li_603, li_999, li_1200, li_1440, li_4095, li_4096, li_6030, li_16384, li_20160, r_cM_gi hS, r_cM_gL hS, r_cM_pi hS, r_cM_pL hS, r_cM_gS hS, r_c413_al hS, r_c413_as hS, r_c413_ln hS, r_c414_al hS, r_c414_as hS, r_c414_ln hS, r_c415_al hS, r_c415_as hS, r_c415_ln hS, r_c416_al hS, r_c416_as hS, r_c416_ln hS, r_c417_al hS, r_c417_as hS, r_c417_ln hS, r_c418_al hS, r_c418_as hS, r_c418_ln hS, r_c419_al hS, r_c419_as hS, r_c419_ln hS, r_c420_al hS, r_c420_as hS, r_c420_ln hS, r_c421_al hS, r_c421_as hS, r_c421_ln hS, r_c422_al hS, r_c422_as hS, r_c422_ln hS, r_c423_al hS, r_c423_as hS, r_c423_ln hS, r_c424_al hS, r_c424_as hS, r_c424_ln hS, r_c425_al hS, r_c425_as hS, r_c425_ln hS, r_c426_al hS, r_c426_as hS, r_c426_ln hS, r_c427_al hS, r_c427_as hS, r_c427_ln hS, r_c428_al hS, r_c428_as hS, r_c428_ln hS, r_c429_al hS, r_c429_as hS, r_c429_ln hS, r_c430_al hS, r_c430_as hS, r_c430_ln hS, r_c431_al hS, r_c431_as hS, r_c431_ln hS, r_c432_al hS, r_c432_as hS, r_c432_ln hS, r_c433_al hS, r_c433_as hS, r_c433_ln hS, r_c434_al hS, r_c434_as hS, r_c434_ln hS, r_c435_al hS, r_c435_as hS, r_c435_ln hS, r_c436_al hS, r_c436_as hS, r_c436_ln hS, r_c437_al hS, r_c437_as hS, r_c437_ln hS, r_c438_al hS, r_c438_as hS, r_c438_ln hS, r_c439_al hS, r_c439_as hS, r_c439_ln hS, r_c440_al hS, r_c440_as hS, r_c440_ln hS, r_c441_al hS, r_c441_as hS, r_c441_ln hS, r_c442_al hS, r_c442_as hS, r_c442_ln hS, r_c443_al hS, r_c443_as hS, r_c443_ln hS, r_c444_al hS, r_c444_as hS, r_c444_ln hS, r_c445_al hS, r_c445_as hS, r_c445_ln hS, r_c446_al hS, r_c446_as hS, r_c446_ln hS, r_c447_al hS, r_c447_as hS, r_c447_ln hS, r_c448_al hS, r_c448_as hS, r_c448_ln hS, r_c449_al hS, r_c449_as hS, r_c449_ln hS, r_c450_al hS, r_c450_as hS, r_c450_ln hS, r_c451_al hS, r_c451_as hS, r_c451_ln hS, r_c452_al hS, r_c452_as hS, r_c452_ln hS, r_c453_al hS, r_c453_as hS, r_c453_ln hS, r_c454_al hS, r_c454_as hS, r_c454_ln hS, r_c455_al hS, r_c455_as hS, r_c455_ln hS, r_c456_al hS, r_c456_as hS, r_c456_ln hS, r_c457_al hS, r_c457_as hS, r_c457_ln hS, r_c458_al hS, r_c458_as hS, r_c458_ln hS, r_c459_al hS, r_c459_as hS, r_c459_ln hS, r_c460_al hS, r_c460_as hS, r_c460_ln hS, r_c461_al hS, r_c461_as hS, r_c461_ln hS, r_p413 hS, r_p414 hS, r_p415 hS, r_p416 hS, r_p417 hS, r_p418 hS, r_p419 hS, r_p420 hS, r_p421 hS, r_p422 hS, r_p423 hS, r_p424 hS, r_p425 hS, r_p426 hS, r_p427 hS, r_p428 hS, r_p429 hS, r_p430 hS, r_p431 hS, r_p432 hS, r_p433 hS, r_p434 hS, r_p435 hS, r_p436 hS, r_p437 hS, r_p438 hS, r_p439 hS, r_p440 hS, r_p441 hS, r_p442 hS, r_p443 hS, r_p444 hS, r_p445 hS, r_p446 hS, r_p447 hS, r_p448 hS, r_p449 hS, r_p450 hS, r_p451 hS, r_p452 hS, r_p453 hS, r_p454 hS, r_p455 hS, r_p456 hS, r_p457 hS, r_p458 hS, r_p459 hS, r_p460 hS, r_p461 hS, z.c431, z.c432, nI_ltI, nI_eq, r_holder hS z hD hR g1]
    rw [if_pos hlt]
    by_cases c : link T (T 413) (T 432 (6 * k + i)) (T 413 (194 + 15 * T 432 (6 * k + i) + 8)) = p
    · rw [if_pos c]
      exact ih _ _ _ _ (by omega) ⟨rfl, i + 1, hlt, rfl, rfl, (b2i_or _ true).trans (congrArg b2i (by show _ = (anyB _ i || decide _); rw [decide_eq_true c]))⟩
    · rw [if_neg c]
      exact ih _ _ _ _ (by omega) ⟨rfl, i + 1, hlt, rfl, rfl, (b2i_or _ false).trans (congrArg b2i (by show _ = (anyB _ i || decide _); rw [decide_eq_false c]))⟩
  · obtain rfl : i = T 431 k := by omega
    have b1 := z.2 413 (26 + p)
    have b2 := arr_lt hD (S := T 413) hp
    have eH : anyB (fun j => decide (link T (T 413) (T 432 (6 * k + j)) (T 413 (194 + 15 * T 432 (6 * k + j) + 8)) = p)) (T 431 k) = hlds T (T 413) k p := rfl
    rw [eH]
    simp (maxSteps := 3000000) (disch := first | assumption | omega) only [m_X12_absent_L5, bO_v, bR_v, bX_l, bX_r, bC_l, bC_r, aJ_v, aLet_v, nI_add, pk_mul, dvI_n, rmI_n, iMax_n, iMin_n, zO_0, zO_1, li_0, li_1, li_2, li_3, li_4, li_5, li_6, li_7, li_8, li_9, li_10, li_12, li_14, li_15, li_16, li_18, li_19, li_20, li_22, li_23, li_24, li_26, li_29, li_30, li_31, li_32, li_36, li_38, li_48, li_50, li_57, li_58, li_59, li_60, li_63, li_97, li_99, li_120, li_122, li_144, li_168, li_194, li_240, li_255, li_284, li_299, li_603, li_999, li_1200, li_1440, li_4095, li_4096, li_6030, li_16384, li_20160, r_cM_gi hS, r_cM_gL hS, r_cM_pi hS, r_cM_pL hS, r_cM_gS hS, r_c413_al hS, r_c413_as hS, r_c413_ln hS, r_c414_al hS, r_c414_as hS, r_c414_ln hS, r_c415_al hS, r_c415_as hS, r_c415_ln hS, r_c416_al hS, r_c416_as hS, r_c416_ln hS, r_c417_al hS, r_c417_as hS, r_c417_ln hS, r_c418_al hS, r_c418_as hS, r_c418_ln hS, r_c419_al hS, r_c419_as hS, r_c419_ln hS, r_c420_al hS, r_c420_as hS, r_c420_ln hS, r_c421_al hS, r_c421_as hS, r_c421_ln hS, r_c422_al hS, r_c422_as hS, r_c422_ln hS, r_c423_al hS, r_c423_as hS, r_c423_ln hS, r_c424_al hS, r_c424_as hS, r_c424_ln hS, r_c425_al hS, r_c425_as hS, r_c425_ln hS, r_c426_al hS, r_c426_as hS, r_c426_ln hS, r_c427_al hS, r_c427_as hS, r_c427_ln hS, r_c428_al hS, r_c428_as hS, r_c428_ln hS, r_c429_al hS, r_c429_as hS, r_c429_ln hS, r_c430_al hS, r_c430_as hS, r_c430_ln hS, r_c431_al hS, r_c431_as hS, r_c431_ln hS, r_c432_al hS, r_c432_as hS, r_c432_ln hS, r_c433_al hS, r_c433_as hS, r_c433_ln hS, r_c434_al hS, r_c434_as hS, r_c434_ln hS, r_c435_al hS, r_c435_as hS, r_c435_ln hS, r_c436_al hS, r_c436_as hS, r_c436_ln hS, r_c437_al hS, r_c437_as hS, r_c437_ln hS, r_c438_al hS, r_c438_as hS, r_c438_ln hS, r_c439_al hS, r_c439_as hS, r_c439_ln hS, r_c440_al hS, r_c440_as hS, r_c440_ln hS, r_c441_al hS, r_c441_as hS, r_c441_ln hS, r_c442_al hS, r_c442_as hS, r_c442_ln hS, r_c443_al hS, r_c443_as hS, r_c443_ln hS, r_c444_al hS, r_c444_as hS, r_c444_ln hS, r_c445_al hS, r_c445_as hS, r_c445_ln hS, r_c446_al hS, r_c446_as hS, r_c446_ln hS, r_c447_al hS, r_c447_as hS, r_c447_ln hS, r_c448_al hS, r_c448_as hS, r_c448_ln hS, r_c449_al hS, r_c449_as hS, r_c449_ln hS, r_c450_al hS, r_c450_as hS, r_c450_ln hS, r_c451_al hS, r_c451_as hS, r_c451_ln hS, r_c452_al hS, r_c452_as hS, r_c452_ln hS, r_c453_al hS, r_c453_as hS, r_c453_ln hS, r_c454_al hS, r_c454_as hS, r_c454_ln hS, r_c455_al hS, r_c455_as hS, r_c455_ln hS, r_c456_al hS, r_c456_as hS, r_c456_ln hS, r_c457_al hS, r_c457_as hS, r_c457_ln hS, r_c458_al hS, r_c458_as hS, r_c458_ln hS, r_c459_al hS, r_c459_as hS, r_c459_ln hS, r_c460_al hS, r_c460_as hS, r_c460_ln hS, r_c461_al hS, r_c461_as hS, r_c461_ln hS, r_p413 hS, r_p414 hS, r_p415 hS, r_p416 hS, r_p417 hS, r_p418 hS, r_p419 hS, r_p420 hS, r_p421 hS, r_p422 hS, r_p423 hS, r_p424 hS, r_p425 hS, r_p426 hS, r_p427 hS, r_p428 hS, r_p429 hS, r_p430 hS, r_p431 hS, r_p432 hS, r_p433 hS, r_p434 hS, r_p435 hS, r_p436 hS, r_p437 hS, r_p438 hS, r_p439 hS, r_p440 hS, r_p441 hS, r_p442 hS, r_p443 hS, r_p444 hS, r_p445 hS, r_p446 hS, r_p447 hS, r_p448 hS, r_p449 hS, r_p450 hS, r_p451 hS, r_p452 hS, r_p453 hS, r_p454 hS, r_p455 hS, r_p456 hS, r_p457 hS, r_p458 hS, r_p459 hS, r_p460 hS, r_p461 hS, z.c431, z.c413, z.c429, nI_ltI, b2i_0, nI_eq, nI_leI, r_isOut hS z (show p < 12 by omega), r_isTired hS z (show p < 12 by omega), r_arrivalOf hS z hD (show T 413 0 < 1000000 by omega) (show p < 12 by omega)]
    rw [if_neg hlt]
    unfold absn
    cases c1 : hlds T (T 413) k p
    · simp
    · by_cases c3 : T 413 (26 + p) = 0
      · cases c4 : isO (T 413) p
        · cases c5 : isT T (T 413) p
          · by_cases c6 : arr T (T 413) p ≤ T 429 k <;> simp [c3, c6]
          · simp [c3]
        · simp [c3]
      · simp [c3]
def SCx (o k : Nat) : Prop := (456 ≤ o ∧ o < 462) ∨ (o = 412 ∧ (k = 63 ∨ k = 68))
theorem SCx_no : ∀ o k, rfC o k → ¬ SCx o k := fun o k h1 h2 => by unfold rfC at h1; unfold SCx at h2; omega
theorem r_plansL7 (hS : Sh h) (z : RefR h T) (hD : PlD T) (hR : RwD T (T 413)) {k : Nat} (hk : k < T 412 11) (h0 : h_iv h 412 63 = nI 0) {k46 : aH → Option (Unit × aH)} {R : Option (Unit × aH) → Prop}
    (hh : ∀ h1, Fx SCx h h1 → h_iv h1 412 63 = nI (com T (T 413) k) → R (k46 h1)) : R (aL1 (m_X12_plans_L7 412 (nI k) k46) FU (nI 0) h) := by
  have d0 := hD.nP
  refine aL1_run (fun m s1 h1 => ∃ i, i ≤ T 412 8 ∧ m = T 412 8 - i ∧ s1 = nI i ∧ Fx SCx h h1 ∧ h_iv h1 412 63 = nI (mk (fun p => decide (absn T (T 413) k p = 0)) i)) ⟨0, Nat.zero_le _, rfl, rfl, Fx.rf, h0⟩ (by omega) ?_
  rintro rec m s1 h1 ⟨i, hi, rfl, rfl, hF, hc⟩ ih
  have hS1 := hF.sh hS
  have z1 := z.fx hF SCx_no
  by_cases hlt : i < T 412 8
  · have b0 : absn T (T 413) k i < 6 := by unfold absn; (repeat' split) <;> omega
    simp (maxSteps := 3000000) (disch := first | assumption | omega) only [m_X12_plans_L7, bO_v, bR_v, bX_l, bX_r, bC_l, bC_r, aJ_v, aLet_v, nI_add, pk_mul, dvI_n, rmI_n, iMax_n, iMin_n, zO_0, zO_1, li_0, li_1, li_2, li_3, li_4, li_5, li_6, li_7, li_8, li_9, li_10, li_12, li_14, li_15, li_16, li_18, li_19, li_20, li_22, li_23, li_24, li_26, li_29, li_30, li_31, li_32, li_36, li_38, li_48, li_50, li_57, li_58, li_59, li_60, li_63, li_97, li_99, li_120, li_122, li_144, li_168, li_194, li_240, li_255, li_284, li_299, li_603, li_999, li_1200, li_1440, li_4095, li_4096, li_6030, li_16384, li_20160, r_cM_gi hS1, r_cM_gL hS1, r_cM_pi hS1, r_cM_pL hS1, r_cM_gS hS1, r_c413_al hS1, r_c413_as hS1, r_c413_ln hS1, r_c414_al hS1, r_c414_as hS1, r_c414_ln hS1, r_c415_al hS1, r_c415_as hS1, r_c415_ln hS1, r_c416_al hS1, r_c416_as hS1, r_c416_ln hS1, r_c417_al hS1, r_c417_as hS1, r_c417_ln hS1, r_c418_al hS1, r_c418_as hS1, r_c418_ln hS1, r_c419_al hS1, r_c419_as hS1, r_c419_ln hS1, r_c420_al hS1, r_c420_as hS1, r_c420_ln hS1, r_c421_al hS1, r_c421_as hS1, r_c421_ln hS1, r_c422_al hS1, r_c422_as hS1, r_c422_ln hS1, r_c423_al hS1, r_c423_as hS1, r_c423_ln hS1, r_c424_al hS1, r_c424_as hS1, r_c424_ln hS1, r_c425_al hS1, r_c425_as hS1, r_c425_ln hS1, r_c426_al hS1, r_c426_as hS1, r_c426_ln hS1, r_c427_al hS1, r_c427_as hS1, r_c427_ln hS1, r_c428_al hS1, r_c428_as hS1, r_c428_ln hS1, r_c429_al hS1, r_c429_as hS1, r_c429_ln hS1, r_c430_al hS1, r_c430_as hS1, r_c430_ln hS1, r_c431_al hS1, r_c431_as hS1, r_c431_ln hS1, r_c432_al hS1, r_c432_as hS1, r_c432_ln hS1, r_c433_al hS1, r_c433_as hS1, r_c433_ln hS1, r_c434_al hS1, r_c434_as hS1, r_c434_ln hS1, r_c435_al hS1, r_c435_as hS1, r_c435_ln hS1, r_c436_al hS1, r_c436_as hS1, r_c436_ln hS1, r_c437_al hS1, r_c437_as hS1, r_c437_ln hS1, r_c438_al hS1, r_c438_as hS1, r_c438_ln hS1, r_c439_al hS1, r_c439_as hS1, r_c439_ln hS1, r_c440_al hS1, r_c440_as hS1, r_c440_ln hS1, r_c441_al hS1, r_c441_as hS1, r_c441_ln hS1, r_c442_al hS1, r_c442_as hS1, r_c442_ln hS1, r_c443_al hS1, r_c443_as hS1, r_c443_ln hS1, r_c444_al hS1, r_c444_as hS1, r_c444_ln hS1, r_c445_al hS1, r_c445_as hS1, r_c445_ln hS1, r_c446_al hS1, r_c446_as hS1, r_c446_ln hS1, r_c447_al hS1, r_c447_as hS1, r_c447_ln hS1, r_c448_al hS1, r_c448_as hS1, r_c448_ln hS1, r_c449_al hS1, r_c449_as hS1, r_c449_ln hS1, r_c450_al hS1, r_c450_as hS1, r_c450_ln hS1, r_c451_al hS1, r_c451_as hS1, r_c451_ln hS1, r_c452_al hS1, r_c452_as hS1, r_c452_ln hS1, r_c453_al hS1, r_c453_as hS1, r_c453_ln hS1, r_c454_al hS1, r_c454_as hS1, r_c454_ln hS1, r_c455_al hS1, r_c455_as hS1, r_c455_ln hS1, r_c456_al hS1, r_c456_as hS1, r_c456_ln hS1, r_c457_al hS1, r_c457_as hS1, r_c457_ln hS1, r_c458_al hS1, r_c458_as hS1, r_c458_ln hS1, r_c459_al hS1, r_c459_as hS1, r_c459_ln hS1, r_c460_al hS1, r_c460_as hS1, r_c460_ln hS1, r_c461_al hS1, r_c461_as hS1, r_c461_ln hS1, r_p413 hS1, r_p414 hS1, r_p415 hS1, r_p416 hS1, r_p417 hS1, r_p418 hS1, r_p419 hS1, r_p420 hS1, r_p421 hS1, r_p422 hS1, r_p423 hS1, r_p424 hS1, r_p425 hS1, r_p426 hS1, r_p427 hS1, r_p428 hS1, r_p429 hS1, r_p430 hS1, r_p431 hS1, r_p432 hS1, r_p433 hS1, r_p434 hS1, r_p435 hS1, r_p436 hS1, r_p437 hS1, r_p438 hS1, r_p439 hS1, r_p440 hS1, r_p441 hS1, r_p442 hS1, r_p443 hS1, r_p444 hS1, r_p445 hS1, r_p446 hS1, r_p447 hS1, r_p448 hS1, r_p449 hS1, r_p450 hS1, r_p451 hS1, r_p452 hS1, r_p453 hS1, r_p454 hS1, r_p455 hS1, r_p456 hS1, r_p457 hS1, r_p458 hS1, r_p459 hS1, r_p460 hS1, r_p461 hS1, z1.f8, nI_ltI, r_absent hS1 z1 hD hR hk hlt, nI_eq, hc, shl1_n, fa_or]
    rw [if_pos hlt]
    by_cases c : absn T (T 413) k i = 0
    · rw [if_pos c]
      exact ih _ _ _ (by omega) ⟨i + 1, hlt, rfl, rfl, hF.trans (Fx.si (Or.inr ⟨rfl, Or.inl rfl⟩)), by rw [si_at, mk, if_pos (decide_eq_true c)]⟩
    · rw [if_neg c]
      exact ih _ _ _ (by omega) ⟨i + 1, hlt, rfl, rfl, hF.trans (Fx.si (Or.inr ⟨rfl, Or.inl rfl⟩)), by rw [si_at, mk, if_neg (by simpa using c)]⟩
  · obtain rfl : i = T 412 8 := by omega
    simp (maxSteps := 3000000) (disch := first | assumption | omega) only [m_X12_plans_L7, bO_v, bR_v, bX_l, bX_r, bC_l, bC_r, aJ_v, aLet_v, nI_add, pk_mul, dvI_n, rmI_n, iMax_n, iMin_n, zO_0, zO_1, li_0, li_1, li_2, li_3, li_4, li_5, li_6, li_7, li_8, li_9, li_10, li_12, li_14, li_15, li_16, li_18, li_19, li_20, li_22, li_23, li_24, li_26, li_29, li_30, li_31, li_32, li_36, li_38, li_48, li_50, li_57, li_58, li_59, li_60, li_63, li_97, li_99, li_120, li_122, li_144, li_168, li_194, li_240, li_255, li_284, li_299, li_603, li_999, li_1200, li_1440, li_4095, li_4096, li_6030, li_16384, li_20160, r_cM_gi hS1, r_cM_gL hS1, r_cM_pi hS1, r_cM_pL hS1, r_cM_gS hS1, r_c413_al hS1, r_c413_as hS1, r_c413_ln hS1, r_c414_al hS1, r_c414_as hS1, r_c414_ln hS1, r_c415_al hS1, r_c415_as hS1, r_c415_ln hS1, r_c416_al hS1, r_c416_as hS1, r_c416_ln hS1, r_c417_al hS1, r_c417_as hS1, r_c417_ln hS1, r_c418_al hS1, r_c418_as hS1, r_c418_ln hS1, r_c419_al hS1, r_c419_as hS1, r_c419_ln hS1, r_c420_al hS1, r_c420_as hS1, r_c420_ln hS1, r_c421_al hS1, r_c421_as hS1, r_c421_ln hS1, r_c422_al hS1, r_c422_as hS1, r_c422_ln hS1, r_c423_al hS1, r_c423_as hS1, r_c423_ln hS1, r_c424_al hS1, r_c424_as hS1, r_c424_ln hS1, r_c425_al hS1, r_c425_as hS1, r_c425_ln hS1, r_c426_al hS1, r_c426_as hS1, r_c426_ln hS1, r_c427_al hS1, r_c427_as hS1, r_c427_ln hS1, r_c428_al hS1, r_c428_as hS1, r_c428_ln hS1, r_c429_al hS1, r_c429_as hS1, r_c429_ln hS1, r_c430_al hS1, r_c430_as hS1, r_c430_ln hS1, r_c431_al hS1, r_c431_as hS1, r_c431_ln hS1, r_c432_al hS1, r_c432_as hS1, r_c432_ln hS1, r_c433_al hS1, r_c433_as hS1, r_c433_ln hS1, r_c434_al hS1, r_c434_as hS1, r_c434_ln hS1, r_c435_al hS1, r_c435_as hS1, r_c435_ln hS1, r_c436_al hS1, r_c436_as hS1, r_c436_ln hS1, r_c437_al hS1, r_c437_as hS1, r_c437_ln hS1, r_c438_al hS1, r_c438_as hS1, r_c438_ln hS1, r_c439_al hS1, r_c439_as hS1, r_c439_ln hS1, r_c440_al hS1, r_c440_as hS1, r_c440_ln hS1, r_c441_al hS1, r_c441_as hS1, r_c441_ln hS1, r_c442_al hS1, r_c442_as hS1, r_c442_ln hS1, r_c443_al hS1, r_c443_as hS1, r_c443_ln hS1, r_c444_al hS1, r_c444_as hS1, r_c444_ln hS1, r_c445_al hS1, r_c445_as hS1, r_c445_ln hS1, r_c446_al hS1, r_c446_as hS1, r_c446_ln hS1, r_c447_al hS1, r_c447_as hS1, r_c447_ln hS1, r_c448_al hS1, r_c448_as hS1, r_c448_ln hS1, r_c449_al hS1, r_c449_as hS1, r_c449_ln hS1, r_c450_al hS1, r_c450_as hS1, r_c450_ln hS1, r_c451_al hS1, r_c451_as hS1, r_c451_ln hS1, r_c452_al hS1, r_c452_as hS1, r_c452_ln hS1, r_c453_al hS1, r_c453_as hS1, r_c453_ln hS1, r_c454_al hS1, r_c454_as hS1, r_c454_ln hS1, r_c455_al hS1, r_c455_as hS1, r_c455_ln hS1, r_c456_al hS1, r_c456_as hS1, r_c456_ln hS1, r_c457_al hS1, r_c457_as hS1, r_c457_ln hS1, r_c458_al hS1, r_c458_as hS1, r_c458_ln hS1, r_c459_al hS1, r_c459_as hS1, r_c459_ln hS1, r_c460_al hS1, r_c460_as hS1, r_c460_ln hS1, r_c461_al hS1, r_c461_as hS1, r_c461_ln hS1, r_p413 hS1, r_p414 hS1, r_p415 hS1, r_p416 hS1, r_p417 hS1, r_p418 hS1, r_p419 hS1, r_p420 hS1, r_p421 hS1, r_p422 hS1, r_p423 hS1, r_p424 hS1, r_p425 hS1, r_p426 hS1, r_p427 hS1, r_p428 hS1, r_p429 hS1, r_p430 hS1, r_p431 hS1, r_p432 hS1, r_p433 hS1, r_p434 hS1, r_p435 hS1, r_p436 hS1, r_p437 hS1, r_p438 hS1, r_p439 hS1, r_p440 hS1, r_p441 hS1, r_p442 hS1, r_p443 hS1, r_p444 hS1, r_p445 hS1, r_p446 hS1, r_p447 hS1, r_p448 hS1, r_p449 hS1, r_p450 hS1, r_p451 hS1, r_p452 hS1, r_p453 hS1, r_p454 hS1, r_p455 hS1, r_p456 hS1, r_p457 hS1, r_p458 hS1, r_p459 hS1, r_p460 hS1, r_p461 hS1, z1.f8, nI_ltI]
    rw [if_neg hlt]
    exact hh h1 hF hc
end
