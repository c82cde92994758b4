section
variable {h : aH} {T : Nat → Nat → Nat}
/-- a full crew of engine e out of A -/
def fullC (t K : Nat → Nat) (n A m : Nat) : Prop := sub m A ∧ Mt t K n m ∧ sz m = n
theorem cn_full {t K : Nat → Nat} {n A m : Nat} : (cnB t K n A m = true ∧ sz m = n) ↔ fullC t K n A m := by
  rw [cnB_t]
  constructor
  · rintro ⟨⟨h1, h2, h3⟩, h4⟩
    rw [h4] at h3
    exact ⟨h1, (Me_Mt h3).1, h4⟩
  · rintro ⟨h1, h2, h3⟩
    exact ⟨⟨h1, by omega, by rw [h3]; exact Mt_Me h2 h3⟩, h3⟩
/-- the best among the sets below m -/
def bestI (t K ar : Nat → Nat) (n N A m b : Nat) : Prop := (b = 0 ∧ ∀ m', m' < m → ¬ fullC t K n A m') ∨ (b ≠ 0 ∧ b < m ∧ fullC t K n A b ∧ ∀ m', m' < m → fullC t K n A m' → m' ≠ b → btr ar N b m')
theorem bestI_no {t K ar : Nat → Nat} {n N A m b : Nat} (h : bestI t K ar n N A m b) (hm : ¬ fullC t K n A m) : bestI t K ar n N A (m + 1) b := by
  rcases h with ⟨h1, h2⟩ | ⟨h1, h2, h3, h4⟩
  · refine Or.inl ⟨h1, fun m' hm' => ?_⟩
    by_cases c : m' = m
    · rw [c]; exact hm
    · exact h2 m' (by omega)
  · refine Or.inr ⟨h1, by omega, h3, fun m' hm' hf hne => ?_⟩
    by_cases c : m' = m
    · rw [c] at hf; exact absurd hf hm
    · exact h4 m' (by omega) hf hne
theorem bestI_take {t K ar : Nat → Nat} {n N A m b : Nat} (h : bestI t K ar n N A m b) (hm0 : m ≠ 0) (hm : fullC t K n A m) (hb : b = 0 ∨ btr ar N m b) : bestI t K ar n N A (m + 1) m := by
  refine Or.inr ⟨hm0, by omega, hm, fun m' hm' hf hne => ?_⟩
  rcases h with ⟨h1, h2⟩ | ⟨h1, h2, h3, h4⟩
  · exact absurd hf (h2 m' (by omega))
  · rcases hb with hb | hb
    · exact absurd hb h1
    · by_cases c : m' = b
      · rw [c]; exact hb
      · exact btr_tr hb (h4 m' (by omega) hf c)
theorem bestI_keep {t K ar : Nat → Nat} {n N A m b : Nat} (h : bestI t K ar n N A m b) (hb0 : b ≠ 0) (hb : btr ar N b m) : bestI t K ar n N A (m + 1) b := by
  rcases h with ⟨h1, h2⟩ | ⟨h1, h2, h3, h4⟩
  · exact absurd h1 hb0
  · refine Or.inr ⟨h1, by omega, h3, fun m' hm' hf hne => ?_⟩
    by_cases c : m' = m
    · rw [c]; exact hb
    · exact h4 m' (by omega) hf hne
theorem bestI_end {t K ar : Nat → Nat} {n N A b : Nat} (ht : ∀ k, t k < 5) (hn : 0 < n) (hN : N ≤ 12) (hA : A < 2 ^ N) (har : ∀ p, p < N → ar p < 1440) (h : bestI t K ar n N A 4096 b) : b = crw t K ar n N A := by
  have lt : ∀ {m}, sub m A → m < 4096 := fun hm => Nat.lt_of_lt_of_le (sub_lt hm hA) (show 2 ^ N ≤ 2 ^ 12 from Nat.pow_le_pow_right (by decide) hN)
  by_cases hr : rk t K n A < n
  · rcases h with ⟨h1, h2⟩ | ⟨h1, h2, h3, h4⟩
    · rw [h1, crw, if_pos hr]
    · exact absurd h3.2.2 (crw_none ht hr h3.1 h3.2.1)
  · obtain ⟨c1, c2, c3, c4, c5⟩ := crw_best (K := K) (ar := ar) ht hn hN hA har hr
    rcases h with ⟨h1, h2⟩ | ⟨h1, h2, h3, h4⟩
    · exact absurd ⟨c1, c2, c3⟩ (h2 _ (lt c1))
    · by_cases e : b = crw t K ar n N A
      · exact e
      · exact absurd (c5 b h3.1 h3.2.1 h3.2.2 e) (fun q => btr_as q (h4 _ (lt c1) ⟨c1, c2, c3⟩ (fun x => e x.symm)))
theorem r_crewOf (hS : Sh h) (z : RefR h T) (hD : PlD T) (htm : T 413 0 < 1000000) {e A : Nat} (he : e < T 412 10) (hA : A < 2 ^ T 412 8) :
    OK (m_X12_crewOf 412 (nI e) (nI A) h) (fun r h1 => r = nI (crw (fun k => ptyp (T 427 (6 * e + k))) (Kc T) (arr T (T 413)) (T 426 e) (T 412 8) A) ∧ Fr (fun o => o = 460) h h1) := by
  have d0 := hD.nP
  have d1 := hD.nE
  have d2 := hD.pst e he
  have hA2 := two_pow_lt d0 hA
  have w9 : asz h 460 (nI 0) (nI 1) = some (h_si h 460 0 (nI 1)) := r_c460_as hS (by decide) (Or.inr rfl)
  simp (maxSteps := 3000000) (disch := first | assumption | omega) only [m_X12_crewOf, bO_v, bR_v, bX_l, bX_r, bC_l, bC_r, aJ_v, aLet_v, nI_add, pk_mul, dvI_n, rmI_n, iMax_n, iMin_n, zO_0, zO_1, li_0, li_1, li_2, li_3, li_4, li_5, li_6, li_7, li_8, li_9, li_10, li_12, li_14, li_15, li_16, li_18, li_19, li_20, li_22, li_23, li_24, li_26, li_29, li_30, li_31, li_32, li_36, li_38, li_48, li_50, li_57, li_58, li_59, li_60, li_63, li_97, li_99, li_120, li_122, li_144, li_168, li_194, li_240, li_255, li_284, li_299, li_603, li_999, li_1200, li_1440, li_4095, li_4096, li_6030, li_16384, li_20160, r_cM_gi hS, r_cM_gL hS, r_cM_pi hS, r_cM_pL hS, r_cM_gS hS, r_c413_al hS, r_c413_as hS, r_c413_ln hS, r_c414_al hS, r_c414_as hS, r_c414_ln hS, r_c415_al hS, r_c415_as hS, r_c415_ln hS, r_c416_al hS, r_c416_as hS, r_c416_ln hS, r_c417_al hS, r_c417_as hS, r_c417_ln hS, r_c418_al hS, r_c418_as hS, r_c418_ln hS, r_c419_al hS, r_c419_as hS, r_c419_ln hS, r_c420_al hS, r_c420_as hS, r_c420_ln hS, r_c421_al hS, r_c421_as hS, r_c421_ln hS, r_c422_al hS, r_c422_as hS, r_c422_ln hS, r_c423_al hS, r_c423_as hS, r_c423_ln hS, r_c424_al hS, r_c424_as hS, r_c424_ln hS, r_c425_al hS, r_c425_as hS, r_c425_ln hS, r_c426_al hS, r_c426_as hS, r_c426_ln hS, r_c427_al hS, r_c427_as hS, r_c427_ln hS, r_c428_al hS, r_c428_as hS, r_c428_ln hS, r_c429_al hS, r_c429_as hS, r_c429_ln hS, r_c430_al hS, r_c430_as hS, r_c430_ln hS, r_c431_al hS, r_c431_as hS, r_c431_ln hS, r_c432_al hS, r_c432_as hS, r_c432_ln hS, r_c433_al hS, r_c433_as hS, r_c433_ln hS, r_c434_al hS, r_c434_as hS, r_c434_ln hS, r_c435_al hS, r_c435_as hS, r_c435_ln hS, r_c436_al hS, r_c436_as hS, r_c436_ln hS, r_c437_al hS, r_c437_as hS, r_c437_ln hS, r_c438_al hS, r_c438_as hS, r_c438_ln hS, r_c439_al hS, r_c439_as hS, r_c439_ln hS, r_c440_al hS, r_c440_as hS, r_c440_ln hS, r_c441_al hS, r_c441_as hS, r_c441_ln hS, r_c442_al hS, r_c442_as hS, r_c442_ln hS, r_c443_al hS, r_c443_as hS, r_c443_ln hS, r_c444_al hS, r_c444_as hS, r_c444_ln hS, r_c445_al hS, r_c445_as hS, r_c445_ln hS, r_c446_al hS, r_c446_as hS, r_c446_ln hS, r_c447_al hS, r_c447_as hS, r_c447_ln hS, r_c448_al hS, r_c448_as hS, r_c448_ln hS, r_c449_al hS, r_c449_as hS, r_c449_ln hS, r_c450_al hS, r_c450_as hS, r_c450_ln hS, r_c451_al hS, r_c451_as hS, r_c451_ln hS, r_c452_al hS, r_c452_as hS, r_c452_ln hS, r_c453_al hS, r_c453_as hS, r_c453_ln hS, r_c454_al hS, r_c454_as hS, r_c454_ln hS, r_c455_al hS, r_c455_as hS, r_c455_ln hS, r_c456_al hS, r_c456_as hS, r_c456_ln hS, r_c457_al hS, r_c457_as hS, r_c457_ln hS, r_c458_al hS, r_c458_as hS, r_c458_ln hS, r_c459_al hS, r_c459_as hS, r_c459_ln hS, r_c460_al hS, r_c460_as hS, r_c460_ln hS, r_c461_al hS, r_c461_as hS, r_c461_ln hS, r_p413 hS, r_p414 hS, r_p415 hS, r_p416 hS, r_p417 hS, r_p418 hS, r_p419 hS, r_p420 hS, r_p421 hS, r_p422 hS, r_p423 hS, r_p424 hS, r_p425 hS, r_p426 hS, r_p427 hS, r_p428 hS, r_p429 hS, r_p430 hS, r_p431 hS, r_p432 hS, r_p433 hS, r_p434 hS, r_p435 hS, r_p436 hS, r_p437 hS, r_p438 hS, r_p439 hS, r_p440 hS, r_p441 hS, r_p442 hS, r_p443 hS, r_p444 hS, r_p445 hS, r_p446 hS, r_p447 hS, r_p448 hS, r_p449 hS, r_p450 hS, r_p451 hS, r_p452 hS, r_p453 hS, r_p454 hS, r_p455 hS, r_p456 hS, r_p457 hS, r_p458 hS, r_p459 hS, r_p460 hS, r_p461 hS, w9]
  refine aL2_run (R := fun o => OK o _) (fun k s1 s2 h1 => ∃ m b, 1 ≤ m ∧ m ≤ 4096 ∧ k = 4096 - m ∧ s2 = nI m ∧ s1 = nI b ∧ b < 4096 ∧ bestI (fun k => ptyp (T 427 (6 * e + k))) (Kc T) (arr T (T 413)) (T 426 e) (T 412 8) A m b ∧ Fr (fun o => o = 460) h h1 ∧ ∀ m', m' < m → h_iv h1 460 m' = b2i (cnB (fun k => ptyp (T 427 (6 * e + k))) (Kc T) (T 426 e) A m')) ⟨1, 0, by decide, by decide, rfl, rfl, rfl, by decide, Or.inl ⟨rfl, fun m' hm' hf => ?_⟩, Fr.si rfl, fun m' hm' => ?_⟩ (by decide) ?_
  · have e0 : m' = 0 := by omega
    have h9 := hf.2.2
    rw [e0, show sz 0 = 0 by decide] at h9
    omega
  · have e0 : m' = 0 := by omega
    have t0 : cnB (fun k => ptyp (T 427 (6 * e + k))) (Kc T) (T 426 e) A 0 = true := cnB_t.mpr ⟨fun p hp => (by rw [Nat.zero_testBit] at hp; cases hp), by rw [show sz 0 = 0 by decide]; exact Nat.zero_le _, by rw [show sz 0 = 0 by decide]; rfl⟩
    rw [e0, si_at, t0]
    rfl
  rintro rec k s1 s2 h1 ⟨m, b, hm1, hm, rfl, rfl, rfl, hb, hI, hF, hc⟩ ih
  have hS1 := hF.sh hS
  by_cases hlt : m < 4096
  · have w0 : asz h1 460 (nI m) (nI 0) = some (h_si h1 460 m (nI 0)) := r_c460_as hS1 hlt (Or.inl rfl)
    have es : (nI m &&& nI A = nI m) ↔ sub m A := by
      rw [fa_and, nI_eq (Nat.lt_of_le_of_lt Nat.and_le_left (by omega)) (by omega)]
      exact land_sub
    have n10 : ¬ nI 1 = nI 0 := fun q => absurd ((nI_eq (by decide) (by decide)).mp q) (by decide)
    have main : ∀ s, s = (if m &&& A = m then sz m else 99) → ∀ h2 : aH, Fr (fun o => o = 460) h h2 → (∀ m', m' < m + 1 → h_iv h2 460 m' = b2i (cnB (fun k => ptyp (T 427 (6 * e + k))) (Kc T) (T 426 e) A m')) → ∀ b', b' < 4096 → bestI (fun k => ptyp (T 427 (6 * e + k))) (Kc T) (arr T (T 413)) (T 426 e) (T 412 8) A (m + 1) b' → OK (rec (nI b') (nI (m + 1)) h2) (fun r h1 => r = nI (crw (fun k => ptyp (T 427 (6 * e + k))) (Kc T) (arr T (T 413)) (T 426 e) (T 412 8) A) ∧ Fr (fun o => o = 460) h h1) := fun s hs h2 hF2 hc2 b' hb' hI' => ih _ _ _ _ (by omega) ⟨m + 1, b', by omega, by omega, rfl, rfl, rfl, hb', hI', hF2, hc2⟩
    simp (maxSteps := 3000000) (disch := first | assumption | omega) only [m_X12_crewOf_L12, bO_v, bR_v, bX_l, bX_r, bC_l, bC_r, aJ_v, aLet_v, nI_add, pk_mul, dvI_n, rmI_n, iMax_n, iMin_n, zO_0, zO_1, li_0, li_1, li_2, li_3, li_4, li_5, li_6, li_7, li_8, li_9, li_10, li_12, li_14, li_15, li_16, li_18, li_19, li_20, li_22, li_23, li_24, li_26, li_29, li_30, li_31, li_32, li_36, li_38, li_48, li_50, li_57, li_58, li_59, li_60, li_63, li_97, li_99, li_120, li_122, li_144, li_168, li_194, li_240, li_255, li_284, li_299, li_603, li_999, li_1200, li_1440, li_4095, li_4096, li_6030, li_16384, li_20160, r_cM_gi hS1, r_cM_gL hS1, r_cM_pi hS1, r_cM_pL hS1, r_cM_gS hS1, r_c413_al hS1, r_c413_as hS1, r_c413_ln hS1, r_c414_al hS1, r_c414_as hS1, r_c414_ln hS1, r_c415_al hS1, r_c415_as hS1, r_c415_ln hS1, r_c416_al hS1, r_c416_as hS1, r_c416_ln hS1, r_c417_al hS1, r_c417_as hS1, r_c417_ln hS1, r_c418_al hS1, r_c418_as hS1, r_c418_ln hS1, r_c419_al hS1, r_c419_as hS1, r_c419_ln hS1, r_c420_al hS1, r_c420_as hS1, r_c420_ln hS1, r_c421_al hS1, r_c421_as hS1, r_c421_ln hS1, r_c422_al hS1, r_c422_as hS1, r_c422_ln hS1, r_c423_al hS1, r_c423_as hS1, r_c423_ln hS1, r_c424_al hS1, r_c424_as hS1, r_c424_ln hS1, r_c425_al hS1, r_c425_as hS1, r_c425_ln hS1, r_c426_al hS1, r_c426_as hS1, r_c426_ln hS1, r_c427_al hS1, r_c427_as hS1, r_c427_ln hS1, r_c428_al hS1, r_c428_as hS1, r_c428_ln hS1, r_c429_al hS1, r_c429_as hS1, r_c429_ln hS1, r_c430_al hS1, r_c430_as hS1, r_c430_ln hS1, r_c431_al hS1, r_c431_as hS1, r_c431_ln hS1, r_c432_al hS1, r_c432_as hS1, r_c432_ln hS1, r_c433_al hS1, r_c433_as hS1, r_c433_ln hS1, r_c434_al hS1, r_c434_as hS1, r_c434_ln hS1, r_c435_al hS1, r_c435_as hS1, r_c435_ln hS1, r_c436_al hS1, r_c436_as hS1, r_c436_ln hS1, r_c437_al hS1, r_c437_as hS1, r_c437_ln hS1, r_c438_al hS1, r_c438_as hS1, r_c438_ln hS1, r_c439_al hS1, r_c439_as hS1, r_c439_ln hS1, r_c440_al hS1, r_c440_as hS1, r_c440_ln hS1, r_c441_al hS1, r_c441_as hS1, r_c441_ln hS1, r_c442_al hS1, r_c442_as hS1, r_c442_ln hS1, r_c443_al hS1, r_c443_as hS1, r_c443_ln hS1, r_c444_al hS1, r_c444_as hS1, r_c444_ln hS1, r_c445_al hS1, r_c445_as hS1, r_c445_ln hS1, r_c446_al hS1, r_c446_as hS1, r_c446_ln hS1, r_c447_al hS1, r_c447_as hS1, r_c447_ln hS1, r_c448_al hS1, r_c448_as hS1, r_c448_ln hS1, r_c449_al hS1, r_c449_as hS1, r_c449_ln hS1, r_c450_al hS1, r_c450_as hS1, r_c450_ln hS1, r_c451_al hS1, r_c451_as hS1, r_c451_ln hS1, r_c452_al hS1, r_c452_as hS1, r_c452_ln hS1, r_c453_al hS1, r_c453_as hS1, r_c453_ln hS1, r_c454_al hS1, r_c454_as hS1, r_c454_ln hS1, r_c455_al hS1, r_c455_as hS1, r_c455_ln hS1, r_c456_al hS1, r_c456_as hS1, r_c456_ln hS1, r_c457_al hS1, r_c457_as hS1, r_c457_ln hS1, r_c458_al hS1, r_c458_as hS1, r_c458_ln hS1, r_c459_al hS1, r_c459_as hS1, r_c459_ln hS1, r_c460_al hS1, r_c460_as hS1, r_c460_ln hS1, r_c461_al hS1, r_c461_as hS1, r_c461_ln hS1, r_p413 hS1, r_p414 hS1, r_p415 hS1, r_p416 hS1, r_p417 hS1, r_p418 hS1, r_p419 hS1, r_p420 hS1, r_p421 hS1, r_p422 hS1, r_p423 hS1, r_p424 hS1, r_p425 hS1, r_p426 hS1, r_p427 hS1, r_p428 hS1, r_p429 hS1, r_p430 hS1, r_p431 hS1, r_p432 hS1, r_p433 hS1, r_p434 hS1, r_p435 hS1, r_p436 hS1, r_p437 hS1, r_p438 hS1, r_p439 hS1, r_p440 hS1, r_p441 hS1, r_p442 hS1, r_p443 hS1, r_p444 hS1, r_p445 hS1, r_p446 hS1, r_p447 hS1, r_p448 hS1, r_p449 hS1, r_p450 hS1, r_p451 hS1, r_p452 hS1, r_p453 hS1, r_p454 hS1, r_p455 hS1, r_p456 hS1, r_p457 hS1, r_p458 hS1, r_p459 hS1, r_p460 hS1, r_p461 hS1, w0, r_many hlt, nI_ltI]
    rw [if_pos hlt]
    by_cases hsub : sub m A
    · rw [if_pos (es.mpr hsub)]
      refine r_crewL52 (R := fun o => OK o _) hS z hD he hA (by omega) hlt (s := sz m) (by rw [if_pos (land_sub.mpr hsub)]) (hF.trans (Fr.si rfl)) (fun m' hm' => by rw [si_ne (by omega)]; exact hc m' hm') si_at (fun h2 hF2 hc2 => ?_)
      have hS2 := hF2.sh hS
      have z2 := z.fr hF2 (fun o q1 q2 q3 q4 => by omega)
      have hv := hc2 m (by omega)
      have sz12 : sz m ≤ 12 := fb_ct_le (fun p => m.testBit p) 12
      have go := fun b' hb' hI' => main (sz m) (by rw [if_pos (land_sub.mpr hsub)]) h2 hF2 hc2 b' hb' hI'
      simp (maxSteps := 3000000) (disch := first | assumption | omega) only [bO_v, bR_v, bX_l, bX_r, bC_l, bC_r, aJ_v, aLet_v, nI_add, pk_mul, dvI_n, rmI_n, iMax_n, iMin_n, zO_0, zO_1, li_0, li_1, li_2, li_3, li_4, li_5, li_6, li_7, li_8, li_9, li_10, li_12, li_14, li_15, li_16, li_18, li_19, li_20, li_22, li_23, li_24, li_26, li_29, li_30, li_31, li_32, li_36, li_38, li_48, li_50, li_57, li_58, li_59, li_60, li_63, li_97, li_99, li_120, li_122, li_144, li_168, li_194, li_240, li_255, li_284, li_299, li_603, li_999, li_1200, li_1440, li_4095, li_4096, li_6030, li_16384, li_20160, r_cM_gi hS2, r_cM_gL hS2, r_cM_pi hS2, r_cM_pL hS2, r_cM_gS hS2, r_c413_al hS2, r_c413_as hS2, r_c413_ln hS2, r_c414_al hS2, r_c414_as hS2, r_c414_ln hS2, r_c415_al hS2, r_c415_as hS2, r_c415_ln hS2, r_c416_al hS2, r_c416_as hS2, r_c416_ln hS2, r_c417_al hS2, r_c417_as hS2, r_c417_ln hS2, r_c418_al hS2, r_c418_as hS2, r_c418_ln hS2, r_c419_al hS2, r_c419_as hS2, r_c419_ln hS2, r_c420_al hS2, r_c420_as hS2, r_c420_ln hS2, r_c421_al hS2, r_c421_as hS2, r_c421_ln hS2, r_c422_al hS2, r_c422_as hS2, r_c422_ln hS2, r_c423_al hS2, r_c423_as hS2, r_c423_ln hS2, r_c424_al hS2, r_c424_as hS2, r_c424_ln hS2, r_c425_al hS2, r_c425_as hS2, r_c425_ln hS2, r_c426_al hS2, r_c426_as hS2, r_c426_ln hS2, r_c427_al hS2, r_c427_as hS2, r_c427_ln hS2, r_c428_al hS2, r_c428_as hS2, r_c428_ln hS2, r_c429_al hS2, r_c429_as hS2, r_c429_ln hS2, r_c430_al hS2, r_c430_as hS2, r_c430_ln hS2, r_c431_al hS2, r_c431_as hS2, r_c431_ln hS2, r_c432_al hS2, r_c432_as hS2, r_c432_ln hS2, r_c433_al hS2, r_c433_as hS2, r_c433_ln hS2, r_c434_al hS2, r_c434_as hS2, r_c434_ln hS2, r_c435_al hS2, r_c435_as hS2, r_c435_ln hS2, r_c436_al hS2, r_c436_as hS2, r_c436_ln hS2, r_c437_al hS2, r_c437_as hS2, r_c437_ln hS2, r_c438_al hS2, r_c438_as hS2, r_c438_ln hS2, r_c439_al hS2, r_c439_as hS2, r_c439_ln hS2, r_c440_al hS2, r_c440_as hS2, r_c440_ln hS2, r_c441_al hS2, r_c441_as hS2, r_c441_ln hS2, r_c442_al hS2, r_c442_as hS2, r_c442_ln hS2, r_c443_al hS2, r_c443_as hS2, r_c443_ln hS2, r_c444_al hS2, r_c444_as hS2, r_c444_ln hS2, r_c445_al hS2, r_c445_as hS2, r_c445_ln hS2, r_c446_al hS2, r_c446_as hS2, r_c446_ln hS2, r_c447_al hS2, r_c447_as hS2, r_c447_ln hS2, r_c448_al hS2, r_c448_as hS2, r_c448_ln hS2, r_c449_al hS2, r_c449_as hS2, r_c449_ln hS2, r_c450_al hS2, r_c450_as hS2, r_c450_ln hS2, r_c451_al hS2, r_c451_as hS2, r_c451_ln hS2, r_c452_al hS2, r_c452_as hS2, r_c452_ln hS2, r_c453_al hS2, r_c453_as hS2, r_c453_ln hS2, r_c454_al hS2, r_c454_as hS2, r_c454_ln hS2, r_c455_al hS2, r_c455_as hS2, r_c455_ln hS2, r_c456_al hS2, r_c456_as hS2, r_c456_ln hS2, r_c457_al hS2, r_c457_as hS2, r_c457_ln hS2, r_c458_al hS2, r_c458_as hS2, r_c458_ln hS2, r_c459_al hS2, r_c459_as hS2, r_c459_ln hS2, r_c460_al hS2, r_c460_as hS2, r_c460_ln hS2, r_c461_al hS2, r_c461_as hS2, r_c461_ln hS2, r_p413 hS2, r_p414 hS2, r_p415 hS2, r_p416 hS2, r_p417 hS2, r_p418 hS2, r_p419 hS2, r_p420 hS2, r_p421 hS2, r_p422 hS2, r_p423 hS2, r_p424 hS2, r_p425 hS2, r_p426 hS2, r_p427 hS2, r_p428 hS2, r_p429 hS2, r_p430 hS2, r_p431 hS2, r_p432 hS2, r_p433 hS2, r_p434 hS2, r_p435 hS2, r_p436 hS2, r_p437 hS2, r_p438 hS2, r_p439 hS2, r_p440 hS2, r_p441 hS2, r_p442 hS2, r_p443 hS2, r_p444 hS2, r_p445 hS2, r_p446 hS2, r_p447 hS2, r_p448 hS2, r_p449 hS2, r_p450 hS2, r_p451 hS2, r_p452 hS2, r_p453 hS2, r_p454 hS2, r_p455 hS2, r_p456 hS2, r_p457 hS2, r_p458 hS2, r_p459 hS2, r_p460 hS2, r_p461 hS2, hv, z2.c426, b2i_0, nI_eq, fb_xorI, r_latest hS2 z2 hD htm hlt, r_latest hS2 z2 hD htm hb]
      by_cases c1 : cnB (fun k => ptyp (T 427 (6 * e + k))) (Kc T) (T 426 e) A m = false
      · rw [if_pos c1]
        exact go b hb (bestI_no hI (fun hf => by rw [(cn_full.mpr hf).1] at c1; cases c1))
      · rw [if_neg c1]
        have t1 : cnB (fun k => ptyp (T 427 (6 * e + k))) (Kc T) (T 426 e) A m = true := by simpa using c1
        by_cases c2 : sz m = T 426 e
        · rw [if_pos c2]
          have hfull := cn_full.mp ⟨t1, c2⟩
          have lm : latK (arr T (T 413)) m (T 412 8) ≤ 150 := latK_le (fun p hp _ => arr_lt hD hp)
          have lb : latK (arr T (T 413)) b (T 412 8) ≤ 150 := latK_le (fun p hp _ => arr_lt hD hp)
          have tk := fun hb' => go m hlt (bestI_take hI (by omega) hfull hb')
          simp (maxSteps := 3000000) (disch := first | assumption | omega) only [nI_ltI, nI_eq]
          by_cases c3 : b = 0
          · simp only [if_pos c3, if_neg n10]
            split
            · exact tk (Or.inl c3)
            · exact tk (Or.inl c3)
          · simp only [if_neg c3]
            have hbm : b < m := by
              rcases hI with ⟨q, -⟩ | ⟨-, q, -⟩
              · exact absurd q c3
              · exact q
            have hfi := first_is hlt hb (show m ≠ b by omega)
            by_cases c4 : latK (arr T (T 413)) m (T 412 8) < latK (arr T (T 413)) b (T 412 8)
            · simp only [if_pos c4, if_neg n10]
              split
              · exact tk (Or.inr (Or.inl c4))
              · exact tk (Or.inr (Or.inl c4))
            · simp only [if_neg c4]
              by_cases c5 : latK (arr T (T 413)) m (T 412 8) = latK (arr T (T 413)) b (T 412 8)
              · simp only [if_pos c5]
                by_cases c6 : lexl m b
                · rw [if_neg (fun q => hfi.mp q c6)]
                  try simp only [if_neg n10]
                  exact tk (Or.inr (Or.inr ⟨c5, c6⟩))
                · rw [if_pos (hfi.mpr c6)]
                  try simp only [if_pos (rfl : nI 0 = nI 0)]
                  refine go b hb (bestI_keep hI c3 (Or.inr ⟨c5.symm, ?_⟩))
                  rcases lexl_tot (show m ≠ b by omega) with q | q
                  · exact absurd q c6
                  · exact q
              · simp only [if_neg c5, if_pos (rfl : nI 0 = nI 0)]
                have kb := go b hb (bestI_keep hI c3 (Or.inl (by omega)))
                split
                · exact kb
                · exact kb
        · rw [if_neg c2]
          exact go b hb (bestI_no hI (fun hf => c2 hf.2.2))
    · rw [if_neg (fun q => hsub (es.mp q))]
      have e99 : (99 : Int32) = nI 99 := rfl
      refine r_crewL52 (R := fun o => OK o _) hS z hD he hA (by omega) hlt (s := 99) (by rw [if_neg (fun q => hsub (land_sub.mp q))]) (hF.trans (Fr.si rfl)) (fun m' hm' => by rw [si_ne (by omega)]; exact hc m' hm') si_at (fun h2 hF2 hc2 => ?_)
      have hS2 := hF2.sh hS
      have hv := hc2 m (by omega)
      have f1 : cnB (fun k => ptyp (T 427 (6 * e + k))) (Kc T) (T 426 e) A m = false := by
        cases c : cnB (fun k => ptyp (T 427 (6 * e + k))) (Kc T) (T 426 e) A m
        · rfl
        · exact absurd (cnB_t.mp c).1 hsub
      simp (maxSteps := 3000000) (disch := first | assumption | omega) only [bO_v, bR_v, bX_l, bX_r, bC_l, bC_r, aJ_v, aLet_v, nI_add, pk_mul, dvI_n, rmI_n, iMax_n, iMin_n, zO_0, zO_1, li_0, li_1, li_2, li_3, li_4, li_5, li_6, li_7, li_8, li_9, li_10, li_12, li_14, li_15, li_16, li_18, li_19, li_20, li_22, li_23, li_24, li_26, li_29, li_30, li_31, li_32, li_36, li_38, li_48, li_50, li_57, li_58, li_59, li_60, li_63, li_97, li_99, li_120, li_122, li_144, li_168, li_194, li_240, li_255, li_284, li_299, li_603, li_999, li_1200, li_1440, li_4095, li_4096, li_6030, li_16384, li_20160, r_cM_gi hS2, r_cM_gL hS2, r_cM_pi hS2, r_cM_pL hS2, r_cM_gS hS2, r_c413_al hS2, r_c413_as hS2, r_c413_ln hS2, r_c414_al hS2, r_c414_as hS2, r_c414_ln hS2, r_c415_al hS2, r_c415_as hS2, r_c415_ln hS2, r_c416_al hS2, r_c416_as hS2, r_c416_ln hS2, r_c417_al hS2, r_c417_as hS2, r_c417_ln hS2, r_c418_al hS2, r_c418_as hS2, r_c418_ln hS2, r_c419_al hS2, r_c419_as hS2, r_c419_ln hS2, r_c420_al hS2, r_c420_as hS2, r_c420_ln hS2, r_c421_al hS2, r_c421_as hS2, r_c421_ln hS2, r_c422_al hS2, r_c422_as hS2, r_c422_ln hS2, r_c423_al hS2, r_c423_as hS2, r_c423_ln hS2, r_c424_al hS2, r_c424_as hS2, r_c424_ln hS2, r_c425_al hS2, r_c425_as hS2, r_c425_ln hS2, r_c426_al hS2, r_c426_as hS2, r_c426_ln hS2, r_c427_al hS2, r_c427_as hS2, r_c427_ln hS2, r_c428_al hS2, r_c428_as hS2, r_c428_ln hS2, r_c429_al hS2, r_c429_as hS2, r_c429_ln hS2, r_c430_al hS2, r_c430_as hS2, r_c430_ln hS2, r_c431_al hS2, r_c431_as hS2, r_c431_ln hS2, r_c432_al hS2, r_c432_as hS2, r_c432_ln hS2, r_c433_al hS2, r_c433_as hS2, r_c433_ln hS2, r_c434_al hS2, r_c434_as hS2, r_c434_ln hS2, r_c435_al hS2, r_c435_as hS2, r_c435_ln hS2, r_c436_al hS2, r_c436_as hS2, r_c436_ln hS2, r_c437_al hS2, r_c437_as hS2, r_c437_ln hS2, r_c438_al hS2, r_c438_as hS2, r_c438_ln hS2, r_c439_al hS2, r_c439_as hS2, r_c439_ln hS2, r_c440_al hS2, r_c440_as hS2, r_c440_ln hS2, r_c441_al hS2, r_c441_as hS2, r_c441_ln hS2, r_c442_al hS2, r_c442_as hS2, r_c442_ln hS2, r_c443_al hS2, r_c443_as hS2, r_c443_ln hS2, r_c444_al hS2, r_c444_as hS2, r_c444_ln hS2, r_c445_al hS2, r_c445_as hS2, r_c445_ln hS2, r_c446_al hS2, r_c446_as hS2, r_c446_ln hS2, r_c447_al hS2, r_c447_as hS2, r_c447_ln hS2, r_c448_al hS2, r_c448_as hS2, r_c448_ln hS2, r_c449_al hS2, r_c449_as hS2, r_c449_ln hS2, r_c450_al hS2, r_c450_as hS2, r_c450_ln hS2, r_c451_al hS2, r_c451_as hS2, r_c451_ln hS2, r_c452_al hS2, r_c452_as hS2, r_c452_ln hS2, r_c453_al hS2, r_c453_as hS2, r_c453_ln hS2, r_c454_al hS2, r_c454_as hS2, r_c454_ln hS2, r_c455_al hS2, r_c455_as hS2, r_c455_ln hS2, r_c456_al hS2, r_c456_as hS2, r_c456_ln hS2, r_c457_al hS2, r_c457_as hS2, r_c457_ln hS2, r_c458_al hS2, r_c458_as hS2, r_c458_ln hS2, r_c459_al hS2, r_c459_as hS2, r_c459_ln hS2, r_c460_al hS2, r_c460_as hS2, r_c460_ln hS2, r_c461_al hS2, r_c461_as hS2, r_c461_ln hS2, r_p413 hS2, r_p414 hS2, r_p415 hS2, r_p416 hS2, r_p417 hS2, r_p418 hS2, r_p419 hS2, r_p420 hS2, r_p421 hS2, r_p422 hS2, r_p423 hS2, r_p424 hS2, r_p425 hS2, r_p426 hS2, r_p427 hS2, r_p428 hS2, r_p429 hS2, r_p430 hS2, r_p431 hS2, r_p432 hS2, r_p433 hS2, r_p434 hS2, r_p435 hS2, r_p436 hS2, r_p437 hS2, r_p438 hS2, r_p439 hS2, r_p440 hS2, r_p441 hS2, r_p442 hS2, r_p443 hS2, r_p444 hS2, r_p445 hS2, r_p446 hS2, r_p447 hS2, r_p448 hS2, r_p449 hS2, r_p450 hS2, r_p451 hS2, r_p452 hS2, r_p453 hS2, r_p454 hS2, r_p455 hS2, r_p456 hS2, r_p457 hS2, r_p458 hS2, r_p459 hS2, r_p460 hS2, r_p461 hS2, hv, b2i_0]
      rw [if_pos f1]
      exact main 99 (by rw [if_neg (fun q => hsub (land_sub.mp q))]) h2 hF2 hc2 b hb (bestI_no hI (fun hf => hsub hf.1))
  · obtain rfl : m = 4096 := by omega
    simp (maxSteps := 3000000) (disch := first | assumption | omega) only [m_X12_crewOf_L12, bO_v, bR_v, bX_l, bX_r, bC_l, bC_r, aJ_v, aLet_v, nI_add, pk_mul, dvI_n, rmI_n, iMax_n, iMin_n, zO_0, zO_1, li_0, li_1, li_2, li_3, li_4, li_5, li_6, li_7, li_8, li_9, li_10, li_12, li_14, li_15, li_16, li_18, li_19, li_20, li_22, li_23, li_24, li_26, li_29, li_30, li_31, li_32, li_36, li_38, li_48, li_50, li_57, li_58, li_59, li_60, li_63, li_97, li_99, li_120, li_122, li_144, li_168, li_194, li_240, li_255, li_284, li_299, li_603, li_999, li_1200, li_1440, li_4095, li_4096, li_6030, li_16384, li_20160, r_cM_gi hS1, r_cM_gL hS1, r_cM_pi hS1, r_cM_pL hS1, r_cM_gS hS1, r_c413_al hS1, r_c413_as hS1, r_c413_ln hS1, r_c414_al hS1, r_c414_as hS1, r_c414_ln hS1, r_c415_al hS1, r_c415_as hS1, r_c415_ln hS1, r_c416_al hS1, r_c416_as hS1, r_c416_ln hS1, r_c417_al hS1, r_c417_as hS1, r_c417_ln hS1, r_c418_al hS1, r_c418_as hS1, r_c418_ln hS1, r_c419_al hS1, r_c419_as hS1, r_c419_ln hS1, r_c420_al hS1, r_c420_as hS1, r_c420_ln hS1, r_c421_al hS1, r_c421_as hS1, r_c421_ln hS1, r_c422_al hS1, r_c422_as hS1, r_c422_ln hS1, r_c423_al hS1, r_c423_as hS1, r_c423_ln hS1, r_c424_al hS1, r_c424_as hS1, r_c424_ln hS1, r_c425_al hS1, r_c425_as hS1, r_c425_ln hS1, r_c426_al hS1, r_c426_as hS1, r_c426_ln hS1, r_c427_al hS1, r_c427_as hS1, r_c427_ln hS1, r_c428_al hS1, r_c428_as hS1, r_c428_ln hS1, r_c429_al hS1, r_c429_as hS1, r_c429_ln hS1, r_c430_al hS1, r_c430_as hS1, r_c430_ln hS1, r_c431_al hS1, r_c431_as hS1, r_c431_ln hS1, r_c432_al hS1, r_c432_as hS1, r_c432_ln hS1, r_c433_al hS1, r_c433_as hS1, r_c433_ln hS1, r_c434_al hS1, r_c434_as hS1, r_c434_ln hS1, r_c435_al hS1, r_c435_as hS1, r_c435_ln hS1, r_c436_al hS1, r_c436_as hS1, r_c436_ln hS1, r_c437_al hS1, r_c437_as hS1, r_c437_ln hS1, r_c438_al hS1, r_c438_as hS1, r_c438_ln hS1, r_c439_al hS1, r_c439_as hS1, r_c439_ln hS1, r_c440_al hS1, r_c440_as hS1, r_c440_ln hS1, r_c441_al hS1, r_c441_as hS1, r_c441_ln hS1, r_c442_al hS1, r_c442_as hS1, r_c442_ln hS1, r_c443_al hS1, r_c443_as hS1, r_c443_ln hS1, r_c444_al hS1, r_c444_as hS1, r_c444_ln hS1, r_c445_al hS1, r_c445_as hS1, r_c445_ln hS1, r_c446_al hS1, r_c446_as hS1, r_c446_ln hS1, r_c447_al hS1, r_c447_as hS1, r_c447_ln hS1, r_c448_al hS1, r_c448_as hS1, r_c448_ln hS1, r_c449_al hS1, r_c449_as hS1, r_c449_ln hS1, r_c450_al hS1, r_c450_as hS1, r_c450_ln hS1, r_c451_al hS1, r_c451_as hS1, r_c451_ln hS1, r_c452_al hS1, r_c452_as hS1, r_c452_ln hS1, r_c453_al hS1, r_c453_as hS1, r_c453_ln hS1, r_c454_al hS1, r_c454_as hS1, r_c454_ln hS1, r_c455_al hS1, r_c455_as hS1, r_c455_ln hS1, r_c456_al hS1, r_c456_as hS1, r_c456_ln hS1, r_c457_al hS1, r_c457_as hS1, r_c457_ln hS1, r_c458_al hS1, r_c458_as hS1, r_c458_ln hS1, r_c459_al hS1, r_c459_as hS1, r_c459_ln hS1, r_c460_al hS1, r_c460_as hS1, r_c460_ln hS1, r_c461_al hS1, r_c461_as hS1, r_c461_ln hS1, r_p413 hS1, r_p414 hS1, r_p415 hS1, r_p416 hS1, r_p417 hS1, r_p418 hS1, r_p419 hS1, r_p420 hS1, r_p421 hS1, r_p422 hS1, r_p423 hS1, r_p424 hS1, r_p425 hS1, r_p426 hS1, r_p427 hS1, r_p428 hS1, r_p429 hS1, r_p430 hS1, r_p431 hS1, r_p432 hS1, r_p433 hS1, r_p434 hS1, r_p435 hS1, r_p436 hS1, r_p437 hS1, r_p438 hS1, r_p439 hS1, r_p440 hS1, r_p441 hS1, r_p442 hS1, r_p443 hS1, r_p444 hS1, r_p445 hS1, r_p446 hS1, r_p447 hS1, r_p448 hS1, r_p449 hS1, r_p450 hS1, r_p451 hS1, r_p452 hS1, r_p453 hS1, r_p454 hS1, r_p455 hS1, r_p456 hS1, r_p457 hS1, r_p458 hS1, r_p459 hS1, r_p460 hS1, r_p461 hS1, nI_ltI]
    rw [if_neg (by decide)]
    exact ok_ret ⟨by rw [bestI_end (fun k => ptyp_lt _) (by omega) d0 hA (fun p hp => by have := arr_lt hD (S := T 413) hp; omega) hI], hF⟩
end
