/-! the reference's crews -/
noncomputable def cnB (t K : Nat → Nat) (n A m : Nat) : Bool := @decide (sub m A ∧ sz m ≤ n ∧ Me t K (sz m) m) (Classical.propDecidable _)
theorem cnB_t {t K : Nat → Nat} {n A m : Nat} : cnB t K n A m = true ↔ (sub m A ∧ sz m ≤ n ∧ Me t K (sz m) m) := by
  unfold cnB
  exact @decide_eq_true_iff _ (Classical.propDecidable _)
theorem land_sub {m A : Nat} : m &&& A = m ↔ sub m A := by
  constructor
  · intro h p hp
    rw [← h, Nat.testBit_and, Bool.and_eq_true] at hp
    exact hp.2
  · intro h
    exact Nat.eq_of_testBit_eq (fun i => by
      rw [Nat.testBit_and]
      cases c : m.testBit i
      · rfl
      · rw [h i c]; rfl)
theorem x_lt {m p : Nat} (h : m.testBit p = true) : m ^^^ 2 ^ p < m := by
  have h1 : m ^^^ 2 ^ p ||| 2 ^ p = m := by
    refine Nat.eq_of_testBit_eq (fun i => ?_)
    rw [Nat.testBit_or, tb_x, Nat.testBit_two_pow]
    by_cases e : i = p
    · rw [e, h]; simp
    · rw [decide_eq_false e, decide_eq_false (fun q => e q.symm)]; simp
  have h2 : m ^^^ 2 ^ p ≤ m := by
    have := Nat.left_le_or (n := m ^^^ 2 ^ p) (m := 2 ^ p)
    rw [h1] at this
    exact this
  refine Nat.lt_of_le_of_ne h2 (fun e => ?_)
  have := tb_xe (m := m) (p := p)
  rw [e, h] at this
  cases this
theorem lwb_all : ∀ a, a < 64 → ∀ b, b < 64 → 64 * a + b = 0 ∨ (nI (64 * a + b) &&& -nI (64 * a + b) = nI (2 ^ fa_first (fun i => (64 * a + b).testBit i) 12) ∧ fa_first (fun i => (64 * a + b).testBit i) 12 < 12) := by decide +kernel
/-- Java's test which of two crews stands ahead -/
theorem first_is {m b : Nat} (hm : m < 4096) (hb : b < 4096) (hne : m ≠ b) : ((nI m &&& nI (m ^^^ b)) &&& -nI (m ^^^ b) = nI 0) ↔ ¬ lexl m b := by
  have hd : m ^^^ b < 4096 := Nat.xor_lt_two_pow (n := 12) hm hb
  have hd0 : m ^^^ b ≠ 0 := fun e => hne (by
    refine Nat.eq_of_testBit_eq (fun i => ?_)
    have : (m ^^^ b).testBit i = false := by rw [e, Nat.zero_testBit]
    rw [Nat.testBit_xor] at this
    cases h1 : m.testBit i <;> cases h2 : b.testBit i <;> simp_all)
  have e := lwb_all ((m ^^^ b) / 64) (by omega) ((m ^^^ b) % 64) (by omega)
  rw [show 64 * ((m ^^^ b) / 64) + (m ^^^ b) % 64 = m ^^^ b by omega] at e
  rcases e with e | ⟨e1, e2⟩
  · exact absurd e hd0
  · generalize hj : fa_first (fun i => (m ^^^ b).testBit i) 12 = j at e1 e2
    have hj1 : (m ^^^ b).testBit j = true := by
      have := fa_first_yes (fun i => (m ^^^ b).testBit i) 12 (by rw [hj]; exact e2)
      rw [hj] at this
      exact this
    have hj2 : ∀ k, k < j → (m ^^^ b).testBit k = false := fun k hk => fa_first_no (fun i => (m ^^^ b).testBit i) 12 k (by rw [hj]; exact hk)
    have ex : (nI m &&& nI (m ^^^ b)) &&& -nI (m ^^^ b) = nI m &&& nI (2 ^ j) := by
      rw [← e1]
      exact Int32.and_assoc _ _ _
    rw [ex, show nI 0 = (0 : Int32) from rfl, fa_bit (by omega)]
    rw [Nat.testBit_xor] at hj1
    constructor
    · rintro h ⟨p, p1, p2, p3⟩
      have hp : (m ^^^ b).testBit p = true := by rw [Nat.testBit_xor, p1, p2]; rfl
      by_cases c : p < j
      · rw [hj2 p c] at hp; cases hp
      · by_cases c2 : p = j
        · rw [c2, h] at p1; cases p1
        · have := p3 j (by omega)
          rw [this] at hj1; simp at hj1
    · intro h
      cases c : m.testBit j
      · rfl
      · exfalso
        refine h ⟨j, c, ?_, fun q hq => ?_⟩
        · rw [c] at hj1; simpa using hj1
        · have := hj2 q hq
          rw [Nat.testBit_xor] at this
          cases h1 : m.testBit q <;> cases h2 : b.testBit q <;> simp_all
section
variable {h : aH} {T : Nat → Nat → Nat}
theorem k_bits : ∀ s, s < 16 → (16 + s).testBit 4 = true ∧ ∀ j, j < 4 → (16 + s).testBit j = s.testBit j := by decide
theorem r_fits (hS : Sh h) (z : ∀ o, o = 427 ∨ o = 421 → ∀ k, h_iv h o k = nI (T o k)) (hD : PlD T) {p e k : Nat} (hp : p < T 412 8) (he : e < T 412 10) (hk : k < T 426 e) : m_X12_fits 412 (nI p) (nI e) (nI k) h = some (b2i ((Kc T p).testBit (ptyp (T 427 (6 * e + k)))), h) := by
  have d0 := hD.nP
  have d1 := hD.nE
  have d2 := hD.pst e he
  have d3 := hD.skl p hp
  have d4 := hD.psk e he k hk
  have e1 := z 427 (Or.inl rfl) (6 * e + k)
  have e2 := z 421 (Or.inr rfl) p
  have b1 : T 427 (6 * e + k) < 2147483648 := by omega
  obtain ⟨q1, q2⟩ := k_bits (T 421 p) d3
  have key : ∀ j, j < 4 → T 427 (6 * e + k) = 2 ^ j → (Kc T p).testBit j = (T 421 p).testBit j := fun j hj _ => q2 j hj
  simp (maxSteps := 3000000) (disch := first | assumption | omega) only [m_X12_fits, bO_v, bR_v, bX_l, bX_r, bC_l, bC_r, aJ_v, aLet_v, nI_add, pk_mul, dvI_n, rmI_n, iMax_n, iMin_n, zO_0, zO_1, li_0, li_1, li_2, li_3, li_4, li_5, li_6, li_7, li_8, li_9, li_10, li_12, li_14, li_15, li_16, li_18, li_19, li_20, li_22, li_23, li_24, li_26, li_29, li_30, li_31, li_32, li_36, li_38, li_48, li_50, li_57, li_58, li_59, li_60, li_63, li_97, li_99, li_120, li_122, li_144, li_168, li_194, li_240, li_255, li_284, li_299, li_603, li_999, li_1200, li_1440, li_4095, li_4096, li_6030, li_16384, li_20160, r_cM_gi hS, r_cM_gL hS, r_cM_pi hS, r_cM_pL hS, r_cM_gS hS, r_c413_al hS, r_c413_as hS, r_c413_ln hS, r_c414_al hS, r_c414_as hS, r_c414_ln hS, r_c415_al hS, r_c415_as hS, r_c415_ln hS, r_c416_al hS, r_c416_as hS, r_c416_ln hS, r_c417_al hS, r_c417_as hS, r_c417_ln hS, r_c418_al hS, r_c418_as hS, r_c418_ln hS, r_c419_al hS, r_c419_as hS, r_c419_ln hS, r_c420_al hS, r_c420_as hS, r_c420_ln hS, r_c421_al hS, r_c421_as hS, r_c421_ln hS, r_c422_al hS, r_c422_as hS, r_c422_ln hS, r_c423_al hS, r_c423_as hS, r_c423_ln hS, r_c424_al hS, r_c424_as hS, r_c424_ln hS, r_c425_al hS, r_c425_as hS, r_c425_ln hS, r_c426_al hS, r_c426_as hS, r_c426_ln hS, r_c427_al hS, r_c427_as hS, r_c427_ln hS, r_c428_al hS, r_c428_as hS, r_c428_ln hS, r_c429_al hS, r_c429_as hS, r_c429_ln hS, r_c430_al hS, r_c430_as hS, r_c430_ln hS, r_c431_al hS, r_c431_as hS, r_c431_ln hS, r_c432_al hS, r_c432_as hS, r_c432_ln hS, r_c433_al hS, r_c433_as hS, r_c433_ln hS, r_c434_al hS, r_c434_as hS, r_c434_ln hS, r_c435_al hS, r_c435_as hS, r_c435_ln hS, r_c436_al hS, r_c436_as hS, r_c436_ln hS, r_c437_al hS, r_c437_as hS, r_c437_ln hS, r_c438_al hS, r_c438_as hS, r_c438_ln hS, r_c439_al hS, r_c439_as hS, r_c439_ln hS, r_c440_al hS, r_c440_as hS, r_c440_ln hS, r_c441_al hS, r_c441_as hS, r_c441_ln hS, r_c442_al hS, r_c442_as hS, r_c442_ln hS, r_c443_al hS, r_c443_as hS, r_c443_ln hS, r_c444_al hS, r_c444_as hS, r_c444_ln hS, r_c445_al hS, r_c445_as hS, r_c445_ln hS, r_c446_al hS, r_c446_as hS, r_c446_ln hS, r_c447_al hS, r_c447_as hS, r_c447_ln hS, r_c448_al hS, r_c448_as hS, r_c448_ln hS, r_c449_al hS, r_c449_as hS, r_c449_ln hS, r_c450_al hS, r_c450_as hS, r_c450_ln hS, r_c451_al hS, r_c451_as hS, r_c451_ln hS, r_c452_al hS, r_c452_as hS, r_c452_ln hS, r_c453_al hS, r_c453_as hS, r_c453_ln hS, r_c454_al hS, r_c454_as hS, r_c454_ln hS, r_c455_al hS, r_c455_as hS, r_c455_ln hS, r_c456_al hS, r_c456_as hS, r_c456_ln hS, r_c457_al hS, r_c457_as hS, r_c457_ln hS, r_c458_al hS, r_c458_as hS, r_c458_ln hS, r_c459_al hS, r_c459_as hS, r_c459_ln hS, r_c460_al hS, r_c460_as hS, r_c460_ln hS, r_c461_al hS, r_c461_as hS, r_c461_ln hS, r_p413 hS, r_p414 hS, r_p415 hS, r_p416 hS, r_p417 hS, r_p418 hS, r_p419 hS, r_p420 hS, r_p421 hS, r_p422 hS, r_p423 hS, r_p424 hS, r_p425 hS, r_p426 hS, r_p427 hS, r_p428 hS, r_p429 hS, r_p430 hS, r_p431 hS, r_p432 hS, r_p433 hS, r_p434 hS, r_p435 hS, r_p436 hS, r_p437 hS, r_p438 hS, r_p439 hS, r_p440 hS, r_p441 hS, r_p442 hS, r_p443 hS, r_p444 hS, r_p445 hS, r_p446 hS, r_p447 hS, r_p448 hS, r_p449 hS, r_p450 hS, r_p451 hS, r_p452 hS, r_p453 hS, r_p454 hS, r_p455 hS, r_p456 hS, r_p457 hS, r_p458 hS, r_p459 hS, r_p460 hS, r_p461 hS, e1, e2, nI_eq]
  by_cases c : T 427 (6 * e + k) = 0
  · rw [if_pos c, b2i_t (show (Kc T p).testBit (ptyp (T 427 (6 * e + k))) = true by rw [c]; exact q1)]
  · rw [if_neg c]
    obtain ⟨j, j1, j2, j3⟩ : ∃ j, j < 4 ∧ T 427 (6 * e + k) = 2 ^ j ∧ ptyp (T 427 (6 * e + k)) = j := by
      rcases d4 with h | h | h | h | h
      · exact absurd h c
      · exact ⟨0, by decide, h, by rw [h]; rfl⟩
      · exact ⟨1, by decide, h, by rw [h]; rfl⟩
      · exact ⟨2, by decide, h, by rw [h]; rfl⟩
      · exact ⟨3, by decide, h, by rw [h]; rfl⟩
    rw [j3, key j j1 j2, j2]
    have eb : (nI (T 421 p) &&& nI (2 ^ j) = nI 0) ↔ (T 421 p).testBit j = false := fa_bit (by omega)
    cases hb : (T 421 p).testBit j
    · rw [if_pos (eb.mpr hb)]; rfl
    · rw [if_neg (fun x => by rw [eb.mp x] at hb; cases hb)]; rfl
theorem r_many {m : Nat} (hm : m < 4096) : m_X12_many (nI m) h = some (nI (sz m), h) := by
  simp only [m_X12_many, aJ_v]
  refine aL2_run (R := fun o => o = some (nI (sz m), h)) (fun k s1 s2 h1 => h1 = h ∧ ∃ i, i ≤ 12 ∧ k = 12 - i ∧ s2 = nI i ∧ s1 = nI (fb_ct (fun p => m.testBit p) i)) ⟨rfl, 0, Nat.zero_le _, rfl, rfl, rfl⟩ (by omega) ?_
  rintro rec k s1 s2 h1 ⟨rfl, i, hi, rfl, rfl, rfl⟩ ih
  by_cases hlt : i < 12
  · have e1 : nI m >>> (nI i &&& nI 31) = nI (m / 2 ^ i) := pk_shrN (by omega) _ i (s_l i (by omega))
    have e2 : nI (m / 2 ^ i) &&& nI 1 = nI (m / 2 ^ i % 2) := fa_mask (m / 2 ^ i) 1
    simp (maxSteps := 3000000) (disch := first | assumption | omega) only [m_X12_many_L4, bO_v, bR_v, bX_l, bX_r, bC_l, bC_r, aJ_v, aLet_v, nI_add, pk_mul, dvI_n, rmI_n, iMax_n, iMin_n, zO_0, zO_1, li_0, li_1, li_2, li_3, li_4, li_5, li_6, li_7, li_8, li_9, li_10, li_12, li_14, li_15, li_16, li_18, li_19, li_20, li_22, li_23, li_24, li_26, li_29, li_30, li_31, li_32, li_36, li_38, li_48, li_50, li_57, li_58, li_59, li_60, li_63, li_97, li_99, li_120, li_122, li_144, li_168, li_194, li_240, li_255, li_284, li_299, li_603, li_999, li_1200, li_1440, li_4095, li_4096, li_6030, li_16384, li_20160, e1, e2, nI_ltI]
    rw [if_pos hlt]
    refine ih _ _ _ _ (by omega) ⟨rfl, i + 1, hlt, rfl, rfl, ?_⟩
    rw [fb_ct_succ]
    congr 2
    rw [Nat.testBit_eq_decide_div_mod_eq]
    have : m / 2 ^ i % 2 < 2 := Nat.mod_lt _ (by decide)
    by_cases c : m / 2 ^ i % 2 = 1
    · rw [decide_eq_true c, c]; rfl
    · rw [decide_eq_false c]
      show m / 2 ^ i % 2 = 0
      omega
  · obtain rfl : i = 12 := by omega
    simp (maxSteps := 3000000) (disch := first | assumption | omega) only [m_X12_many_L4, bO_v, bR_v, bX_l, bX_r, bC_l, bC_r, aJ_v, aLet_v, nI_add, pk_mul, dvI_n, rmI_n, iMax_n, iMin_n, zO_0, zO_1, li_0, li_1, li_2, li_3, li_4, li_5, li_6, li_7, li_8, li_9, li_10, li_12, li_14, li_15, li_16, li_18, li_19, li_20, li_22, li_23, li_24, li_26, li_29, li_30, li_31, li_32, li_36, li_38, li_48, li_50, li_57, li_58, li_59, li_60, li_63, li_97, li_99, li_120, li_122, li_144, li_168, li_194, li_240, li_255, li_284, li_299, li_603, li_999, li_1200, li_1440, li_4095, li_4096, li_6030, li_16384, li_20160, nI_ltI]
    rw [if_neg (by decide)]
    rfl
end
