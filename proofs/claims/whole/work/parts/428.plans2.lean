section
variable {h : aH} {T : Nat → Nat → Nat}
theorem r_isRested (hS : Sh h) (z : RefR h T) {e : Nat} (he : e < 5) : m_X12_isRested 412 (nI e) h = some (b2i (rstd (T 413) e), h) := by
  have b1 := z.2 413 (284 + 3 * e + 1)
  simp (maxSteps := 3000000) (disch := first | assumption | omega) only [m_X12_isRested, bO_v, bR_v, bX_l, bX_r, bC_l, bC_r, aJ_v, aLet_v, nI_add, pk_mul, dvI_n, rmI_n, iMax_n, iMin_n, zO_0, zO_1, li_0, li_1, li_2, li_3, li_4, li_5, li_6, li_7, li_8, li_9, li_10, li_12, li_14, li_15, li_16, li_18, li_19, li_20, li_22, li_23, li_24, li_26, li_29, li_30, li_31, li_32, li_36, li_38, li_48, li_50, li_57, li_58, li_59, li_60, li_63, li_97, li_99, li_120, li_122, li_144, li_168, li_194, li_240, li_255, li_284, li_299, li_603, li_999, li_1200, li_1440, li_4095, li_4096, li_6030, li_16384, li_20160, r_cM_gi hS, r_cM_gL hS, r_cM_pi hS, r_cM_pL hS, r_cM_gS hS, r_c413_al hS, r_c413_as hS, r_c413_ln hS, r_c414_al hS, r_c414_as hS, r_c414_ln hS, r_c415_al hS, r_c415_as hS, r_c415_ln hS, r_c416_al hS, r_c416_as hS, r_c416_ln hS, r_c417_al hS, r_c417_as hS, r_c417_ln hS, r_c418_al hS, r_c418_as hS, r_c418_ln hS, r_c419_al hS, r_c419_as hS, r_c419_ln hS, r_c420_al hS, r_c420_as hS, r_c420_ln hS, r_c421_al hS, r_c421_as hS, r_c421_ln hS, r_c422_al hS, r_c422_as hS, r_c422_ln hS, r_c423_al hS, r_c423_as hS, r_c423_ln hS, r_c424_al hS, r_c424_as hS, r_c424_ln hS, r_c425_al hS, r_c425_as hS, r_c425_ln hS, r_c426_al hS, r_c426_as hS, r_c426_ln hS, r_c427_al hS, r_c427_as hS, r_c427_ln hS, r_c428_al hS, r_c428_as hS, r_c428_ln hS, r_c429_al hS, r_c429_as hS, r_c429_ln hS, r_c430_al hS, r_c430_as hS, r_c430_ln hS, r_c431_al hS, r_c431_as hS, r_c431_ln hS, r_c432_al hS, r_c432_as hS, r_c432_ln hS, r_c433_al hS, r_c433_as hS, r_c433_ln hS, r_c434_al hS, r_c434_as hS, r_c434_ln hS, r_c435_al hS, r_c435_as hS, r_c435_ln hS, r_c436_al hS, r_c436_as hS, r_c436_ln hS, r_c437_al hS, r_c437_as hS, r_c437_ln hS, r_c438_al hS, r_c438_as hS, r_c438_ln hS, r_c439_al hS, r_c439_as hS, r_c439_ln hS, r_c440_al hS, r_c440_as hS, r_c440_ln hS, r_c441_al hS, r_c441_as hS, r_c441_ln hS, r_c442_al hS, r_c442_as hS, r_c442_ln hS, r_c443_al hS, r_c443_as hS, r_c443_ln hS, r_c444_al hS, r_c444_as hS, r_c444_ln hS, r_c445_al hS, r_c445_as hS, r_c445_ln hS, r_c446_al hS, r_c446_as hS, r_c446_ln hS, r_c447_al hS, r_c447_as hS, r_c447_ln hS, r_c448_al hS, r_c448_as hS, r_c448_ln hS, r_c449_al hS, r_c449_as hS, r_c449_ln hS, r_c450_al hS, r_c450_as hS, r_c450_ln hS, r_c451_al hS, r_c451_as hS, r_c451_ln hS, r_c452_al hS, r_c452_as hS, r_c452_ln hS, r_c453_al hS, r_c453_as hS, r_c453_ln hS, r_c454_al hS, r_c454_as hS, r_c454_ln hS, r_c455_al hS, r_c455_as hS, r_c455_ln hS, r_c456_al hS, r_c456_as hS, r_c456_ln hS, r_c457_al hS, r_c457_as hS, r_c457_ln hS, r_c458_al hS, r_c458_as hS, r_c458_ln hS, r_c459_al hS, r_c459_as hS, r_c459_ln hS, r_c460_al hS, r_c460_as hS, r_c460_ln hS, r_c461_al hS, r_c461_as hS, r_c461_ln hS, r_p413 hS, r_p414 hS, r_p415 hS, r_p416 hS, r_p417 hS, r_p418 hS, r_p419 hS, r_p420 hS, r_p421 hS, r_p422 hS, r_p423 hS, r_p424 hS, r_p425 hS, r_p426 hS, r_p427 hS, r_p428 hS, r_p429 hS, r_p430 hS, r_p431 hS, r_p432 hS, r_p433 hS, r_p434 hS, r_p435 hS, r_p436 hS, r_p437 hS, r_p438 hS, r_p439 hS, r_p440 hS, r_p441 hS, r_p442 hS, r_p443 hS, r_p444 hS, r_p445 hS, r_p446 hS, r_p447 hS, r_p448 hS, r_p449 hS, r_p450 hS, r_p451 hS, r_p452 hS, r_p453 hS, r_p454 hS, r_p455 hS, r_p456 hS, r_p457 hS, r_p458 hS, r_p459 hS, r_p460 hS, r_p461 hS, z.c413, nI_eq]
  by_cases c : T 413 (284 + 3 * e + 1) = 0
  · rw [if_pos c, b2i_f (show rstd (T 413) e = false from decide_eq_false (fun q => q c))]
  · rw [if_neg c, b2i_t (show rstd (T 413) e = true from decide_eq_true c)]
theorem r_isEngineOut (hS : Sh h) (z : RefR h T) {e : Nat} (he : e < 5) : m_X12_isEngineOut 412 (nI e) h = some (b2i (eout (T 413) e), h) := by
  have b1 := z.2 413 (284 + 3 * e + 0)
  have b2 := z.2 413 0
  simp (maxSteps := 3000000) (disch := first | assumption | omega) only [m_X12_isEngineOut, bO_v, bR_v, bX_l, bX_r, bC_l, bC_r, aJ_v, aLet_v, nI_add, pk_mul, dvI_n, rmI_n, iMax_n, iMin_n, zO_0, zO_1, li_0, li_1, li_2, li_3, li_4, li_5, li_6, li_7, li_8, li_9, li_10, li_12, li_14, li_15, li_16, li_18, li_19, li_20, li_22, li_23, li_24, li_26, li_29, li_30, li_31, li_32, li_36, li_38, li_48, li_50, li_57, li_58, li_59, li_60, li_63, li_97, li_99, li_120, li_122, li_144, li_168, li_194, li_240, li_255, li_284, li_299, li_603, li_999, li_1200, li_1440, li_4095, li_4096, li_6030, li_16384, li_20160, r_cM_gi hS, r_cM_gL hS, r_cM_pi hS, r_cM_pL hS, r_cM_gS hS, r_c413_al hS, r_c413_as hS, r_c413_ln hS, r_c414_al hS, r_c414_as hS, r_c414_ln hS, r_c415_al hS, r_c415_as hS, r_c415_ln hS, r_c416_al hS, r_c416_as hS, r_c416_ln hS, r_c417_al hS, r_c417_as hS, r_c417_ln hS, r_c418_al hS, r_c418_as hS, r_c418_ln hS, r_c419_al hS, r_c419_as hS, r_c419_ln hS, r_c420_al hS, r_c420_as hS, r_c420_ln hS, r_c421_al hS, r_c421_as hS, r_c421_ln hS, r_c422_al hS, r_c422_as hS, r_c422_ln hS, r_c423_al hS, r_c423_as hS, r_c423_ln hS, r_c424_al hS, r_c424_as hS, r_c424_ln hS, r_c425_al hS, r_c425_as hS, r_c425_ln hS, r_c426_al hS, r_c426_as hS, r_c426_ln hS, r_c427_al hS, r_c427_as hS, r_c427_ln hS, r_c428_al hS, r_c428_as hS, r_c428_ln hS, r_c429_al hS, r_c429_as hS, r_c429_ln hS, r_c430_al hS, r_c430_as hS, r_c430_ln hS, r_c431_al hS, r_c431_as hS, r_c431_ln hS, r_c432_al hS, r_c432_as hS, r_c432_ln hS, r_c433_al hS, r_c433_as hS, r_c433_ln hS, r_c434_al hS, r_c434_as hS, r_c434_ln hS, r_c435_al hS, r_c435_as hS, r_c435_ln hS, r_c436_al hS, r_c436_as hS, r_c436_ln hS, r_c437_al hS, r_c437_as hS, r_c437_ln hS, r_c438_al hS, r_c438_as hS, r_c438_ln hS, r_c439_al hS, r_c439_as hS, r_c439_ln hS, r_c440_al hS, r_c440_as hS, r_c440_ln hS, r_c441_al hS, r_c441_as hS, r_c441_ln hS, r_c442_al hS, r_c442_as hS, r_c442_ln hS, r_c443_al hS, r_c443_as hS, r_c443_ln hS, r_c444_al hS, r_c444_as hS, r_c444_ln hS, r_c445_al hS, r_c445_as hS, r_c445_ln hS, r_c446_al hS, r_c446_as hS, r_c446_ln hS, r_c447_al hS, r_c447_as hS, r_c447_ln hS, r_c448_al hS, r_c448_as hS, r_c448_ln hS, r_c449_al hS, r_c449_as hS, r_c449_ln hS, r_c450_al hS, r_c450_as hS, r_c450_ln hS, r_c451_al hS, r_c451_as hS, r_c451_ln hS, r_c452_al hS, r_c452_as hS, r_c452_ln hS, r_c453_al hS, r_c453_as hS, r_c453_ln hS, r_c454_al hS, r_c454_as hS, r_c454_ln hS, r_c455_al hS, r_c455_as hS, r_c455_ln hS, r_c456_al hS, r_c456_as hS, r_c456_ln hS, r_c457_al hS, r_c457_as hS, r_c457_ln hS, r_c458_al hS, r_c458_as hS, r_c458_ln hS, r_c459_al hS, r_c459_as hS, r_c459_ln hS, r_c460_al hS, r_c460_as hS, r_c460_ln hS, r_c461_al hS, r_c461_as hS, r_c461_ln hS, r_p413 hS, r_p414 hS, r_p415 hS, r_p416 hS, r_p417 hS, r_p418 hS, r_p419 hS, r_p420 hS, r_p421 hS, r_p422 hS, r_p423 hS, r_p424 hS, r_p425 hS, r_p426 hS, r_p427 hS, r_p428 hS, r_p429 hS, r_p430 hS, r_p431 hS, r_p432 hS, r_p433 hS, r_p434 hS, r_p435 hS, r_p436 hS, r_p437 hS, r_p438 hS, r_p439 hS, r_p440 hS, r_p441 hS, r_p442 hS, r_p443 hS, r_p444 hS, r_p445 hS, r_p446 hS, r_p447 hS, r_p448 hS, r_p449 hS, r_p450 hS, r_p451 hS, r_p452 hS, r_p453 hS, r_p454 hS, r_p455 hS, r_p456 hS, r_p457 hS, r_p458 hS, r_p459 hS, r_p460 hS, r_p461 hS, z.c413, nI_leI]
  by_cases c : T 413 (284 + 3 * e + 0) ≤ T 413 0
  · rw [if_pos c, b2i_f (show eout (T 413) e = false from decide_eq_false (by rw [Nat.add_zero] at c; omega))]
  · rw [if_neg c, b2i_t (show eout (T 413) e = true from decide_eq_true (by rw [Nat.add_zero] at c; omega))]
/-- what stands in the tables of the engines below i -/
def pP (T : Nat → Nat → Nat) (S : Nat → Nat) (k : Nat) (h : aH) (i : Nat) : Prop := ∀ j, j < i → h_iv h 456 j = nI (plC T S k (plF T S k j) j) ∧ h_iv h 457 j = nI (plS T S k (plF T S k j) j) ∧ h_iv h 458 j = nI (plF T S k j) ∧ h_iv h 459 j = nI (latK (arr T S) (plC T S k (plF T S k j) j) (T 412 8))
theorem r_plans (hS : Sh h) (z : RefR h T) (hD : PlD T) (hR : RwD T (T 413)) {k : Nat} (hk : k < T 412 11) :
    OK (m_X12_plans 412 (nI k) h) (fun _ h1 => Fx SCx h h1 ∧ h_iv h1 412 63 = nI (com T (T 413) k) ∧ h_iv h1 412 68 = nI (plV T (T 413) k (T 433 k)) ∧ pP T (T 413) k h1 (T 433 k)) := by
  have d0 := hD.nP
  have d1 := hD.nE
  have d2 := hD.nK
  have d3 := hD.ken k hk
  have r0 := hR.tm
  simp (maxSteps := 3000000) (disch := first | assumption | omega) only [m_X12_plans, bO_v, bR_v, bX_l, bX_r, bC_l, bC_r, aJ_v, aLet_v, nI_add, pk_mul, dvI_n, rmI_n, iMax_n, iMin_n, zO_0, zO_1, li_0, li_1, li_2, li_3, li_4, li_5, li_6, li_7, li_8, li_9, li_10, li_12, li_14, li_15, li_16, li_18, li_19, li_20, li_22, li_23, li_24, li_26, li_29, li_30, li_31, li_32, li_36, li_38, li_48, li_50, li_57, li_58, li_59, li_60, li_63, li_97, li_99, li_120, li_122, li_144, li_168, li_194, li_240, li_255, li_284, li_299, li_603, li_999, li_1200, li_1440, li_4095, li_4096, li_6030, li_16384, li_20160, r_cM_gi hS, r_cM_gL hS, r_cM_pi hS, r_cM_pL hS, r_cM_gS hS, r_c413_al hS, r_c413_as hS, r_c413_ln hS, r_c414_al hS, r_c414_as hS, r_c414_ln hS, r_c415_al hS, r_c415_as hS, r_c415_ln hS, r_c416_al hS, r_c416_as hS, r_c416_ln hS, r_c417_al hS, r_c417_as hS, r_c417_ln hS, r_c418_al hS, r_c418_as hS, r_c418_ln hS, r_c419_al hS, r_c419_as hS, r_c419_ln hS, r_c420_al hS, r_c420_as hS, r_c420_ln hS, r_c421_al hS, r_c421_as hS, r_c421_ln hS, r_c422_al hS, r_c422_as hS, r_c422_ln hS, r_c423_al hS, r_c423_as hS, r_c423_ln hS, r_c424_al hS, r_c424_as hS, r_c424_ln hS, r_c425_al hS, r_c425_as hS, r_c425_ln hS, r_c426_al hS, r_c426_as hS, r_c426_ln hS, r_c427_al hS, r_c427_as hS, r_c427_ln hS, r_c428_al hS, r_c428_as hS, r_c428_ln hS, r_c429_al hS, r_c429_as hS, r_c429_ln hS, r_c430_al hS, r_c430_as hS, r_c430_ln hS, r_c431_al hS, r_c431_as hS, r_c431_ln hS, r_c432_al hS, r_c432_as hS, r_c432_ln hS, r_c433_al hS, r_c433_as hS, r_c433_ln hS, r_c434_al hS, r_c434_as hS, r_c434_ln hS, r_c435_al hS, r_c435_as hS, r_c435_ln hS, r_c436_al hS, r_c436_as hS, r_c436_ln hS, r_c437_al hS, r_c437_as hS, r_c437_ln hS, r_c438_al hS, r_c438_as hS, r_c438_ln hS, r_c439_al hS, r_c439_as hS, r_c439_ln hS, r_c440_al hS, r_c440_as hS, r_c440_ln hS, r_c441_al hS, r_c441_as hS, r_c441_ln hS, r_c442_al hS, r_c442_as hS, r_c442_ln hS, r_c443_al hS, r_c443_as hS, r_c443_ln hS, r_c444_al hS, r_c444_as hS, r_c444_ln hS, r_c445_al hS, r_c445_as hS, r_c445_ln hS, r_c446_al hS, r_c446_as hS, r_c446_ln hS, r_c447_al hS, r_c447_as hS, r_c447_ln hS, r_c448_al hS, r_c448_as hS, r_c448_ln hS, r_c449_al hS, r_c449_as hS, r_c449_ln hS, r_c450_al hS, r_c450_as hS, r_c450_ln hS, r_c451_al hS, r_c451_as hS, r_c451_ln hS, r_c452_al hS, r_c452_as hS, r_c452_ln hS, r_c453_al hS, r_c453_as hS, r_c453_ln hS, r_c454_al hS, r_c454_as hS, r_c454_ln hS, r_c455_al hS, r_c455_as hS, r_c455_ln hS, r_c456_al hS, r_c456_as hS, r_c456_ln hS, r_c457_al hS, r_c457_as hS, r_c457_ln hS, r_c458_al hS, r_c458_as hS, r_c458_ln hS, r_c459_al hS, r_c459_as hS, r_c459_ln hS, r_c460_al hS, r_c460_as hS, r_c460_ln hS, r_c461_al hS, r_c461_as hS, r_c461_ln hS, r_p413 hS, r_p414 hS, r_p415 hS, r_p416 hS, r_p417 hS, r_p418 hS, r_p419 hS, r_p420 hS, r_p421 hS, r_p422 hS, r_p423 hS, r_p424 hS, r_p425 hS, r_p426 hS, r_p427 hS, r_p428 hS, r_p429 hS, r_p430 hS, r_p431 hS, r_p432 hS, r_p433 hS, r_p434 hS, r_p435 hS, r_p436 hS, r_p437 hS, r_p438 hS, r_p439 hS, r_p440 hS, r_p441 hS, r_p442 hS, r_p443 hS, r_p444 hS, r_p445 hS, r_p446 hS, r_p447 hS, r_p448 hS, r_p449 hS, r_p450 hS, r_p451 hS, r_p452 hS, r_p453 hS, r_p454 hS, r_p455 hS, r_p456 hS, r_p457 hS, r_p458 hS, r_p459 hS, r_p460 hS, r_p461 hS]
  refine r_plansL7 (R := fun o => OK o _) (hS.si _ _ _) (z.sc (fun q => by unfold rfC at q; omega)) hD hR hk si_at (fun h1 hF hc => ?_)
  have hF0 : Fx SCx h h1 := (Fx.si (Or.inr ⟨rfl, Or.inl rfl⟩)).trans hF
  have hS1 := hF0.sh hS
  simp (maxSteps := 5000000) (disch := first | assumption | ((refine Sh.si ?_ _ _ _); (repeat refine Sh.si ?_ _ _ _) <;> assumption) | omega) only [bO_v, bR_v, bX_l, bX_r, bC_l, bC_r, aJ_v, aLet_v, nI_add, pk_mul, dvI_n, rmI_n, iMax_n, iMin_n, zO_0, zO_1, li_0, li_1, li_2, li_3, li_4, li_5, li_6, li_7, li_8, li_9, li_10, li_12, li_14, li_15, li_16, li_18, li_19, li_20, li_22, li_23, li_24, li_26, li_29, li_30, li_31, li_32, li_36, li_38, li_48, li_50, li_57, li_58, li_59, li_60, li_63, li_97, li_99, li_120, li_122, li_144, li_168, li_194, li_240, li_255, li_284, li_299, li_603, li_999, li_1200, li_1440, li_4095, li_4096, li_6030, li_16384, li_20160, r_cM_pi, r_cM_gi, hc, si_ne]
  refine aL2_run (R := fun o => OK o _) (fun m s1 s2 h2 => ∃ i, i ≤ T 433 k ∧ m = T 433 k - i ∧ s2 = nI i ∧ s1 = nI (plF T (T 413) k i) ∧ Fx SCx h h2 ∧ h_iv h2 412 63 = nI (com T (T 413) k) ∧ h_iv h2 412 68 = nI (plV T (T 413) k i) ∧ pP T (T 413) k h2 i) ⟨0, Nat.zero_le _, rfl, rfl, rfl, hF0.trans (Fx.si (Or.inr ⟨rfl, Or.inr rfl⟩)), by rw [si_ne (by omega)]; exact hc, si_at, fun j hj => absurd hj (Nat.not_lt_zero j)⟩ (by omega) ?_
  rintro rec m s1 s2 h2 ⟨i, hi, rfl, rfl, rfl, hF2, hc2, hl2, hP2⟩ ih
  have hS2 := hF2.sh hS
  have z2 := z.fx hF2 SCx_no
  by_cases hlt : i < T 433 k
  · have he := hD.ke k hk i hlt
    have hA := plF_lt hD (T 413) k i
    have hA2 := two_pow_lt d0 hA
    have hC := plC_lt hD (S := T 413) hk hlt hA
    have hC2 := two_pow_lt d0 hC
    have lL : ∀ i, plV T (T 413) k i ≤ i := fun i => by
      induction i with
      | zero => exact Nat.le_refl _
      | succ i ih9 => rw [plV]; split <;> omega
    have lL2 := lL i
    have lg : latK (arr T (T 413)) (plC T (T 413) k (plF T (T 413) k i) i) (T 412 8) ≤ 150 := latK_le (fun p hp _ => arr_lt hD hp)
    have e5 : T 434 (5 * k + i) < 5 := by omega
    have fin : ∀ (H : aH) (c s g L : Nat), Fx SCx h H → h_iv H 412 63 = nI (com T (T 413) k) → (∀ j, j < i → h_iv H 456 j = h_iv h2 456 j ∧ h_iv H 457 j = h_iv h2 457 j ∧ h_iv H 458 j = h_iv h2 458 j ∧ h_iv H 459 j = h_iv h2 459 j) → h_iv H 458 i = nI (plF T (T 413) k i) → c = plC T (T 413) k (plF T (T 413) k i) i → s = plS T (T 413) k (plF T (T 413) k i) i → g = latK (arr T (T 413)) (plC T (T 413) k (plF T (T 413) k i) i) (T 412 8) → L = plV T (T 413) k (i + 1) →
        OK (rec (nI (ldf (plF T (T 413) k i) c)) (nI (i + 1)) (h_si (h_si (h_si (h_si H 456 i (nI c)) 457 i (nI s)) 459 i (nI g)) 412 68 (nI L))) (fun _ h1 => Fx SCx h h1 ∧ h_iv h1 412 63 = nI (com T (T 413) k) ∧ h_iv h1 412 68 = nI (plV T (T 413) k (T 433 k)) ∧ pP T (T 413) k h1 (T 433 k)) := by
      intro H c s g L f1 f2 f3 f4 f5 f6 f7 f8
      refine ih _ _ _ _ (by omega) ⟨i + 1, hlt, rfl, rfl, by rw [plF, f5], (((f1.trans (Fx.si (Or.inl ⟨by decide, by decide⟩))).trans (Fx.si (Or.inl ⟨by decide, by decide⟩))).trans (Fx.si (Or.inl ⟨by decide, by decide⟩))).trans (Fx.si (Or.inr ⟨rfl, Or.inr rfl⟩)), ?_, by rw [si_at, f8], fun j hj => ?_⟩
      · rw [si_ne (by omega), si_ne (by omega), si_ne (by omega), si_ne (by omega)]; exact f2
      · by_cases e : j = i
        · rw [e]
          refine ⟨?_, ?_, ?_, ?_⟩
          · rw [si_ne (by omega), si_ne (by omega), si_ne (by omega), si_at, f5]
          · rw [si_ne (by omega), si_ne (by omega), si_at, f6]
          · rw [si_ne (by omega), si_ne (by omega), si_ne (by omega), si_ne (by omega)]; exact f4
          · rw [si_ne (by omega), si_at, f7]
        · obtain ⟨a1, a2, a3, a4⟩ := hP2 j (by omega)
          obtain ⟨c1, c2, c3, c4⟩ := f3 j (by omega)
          refine ⟨?_, ?_, ?_, ?_⟩
          · rw [si_ne (by omega), si_ne (by omega), si_ne (by omega), si_ne (by omega), c1]; exact a1
          · rw [si_ne (by omega), si_ne (by omega), si_ne (by omega), si_ne (by omega), c2]; exact a2
          · rw [si_ne (by omega), si_ne (by omega), si_ne (by omega), si_ne (by omega), c3]; exact a3
          · rw [si_ne (by omega), si_ne (by omega), si_ne (by omega), si_ne (by omega), c4]; exact a4
    have hS3 := hS2.si 458 i (nI (plF T (T 413) k i))
    have F3 : Fx SCx h (h_si h2 458 i (nI (plF T (T 413) k i))) := hF2.trans (Fx.si (Or.inl ⟨by decide, by decide⟩))
    have z3 : RefR (h_si h2 458 i (nI (plF T (T 413) k i))) T := z.fx F3 SCx_no
    have c3 : h_iv (h_si h2 458 i (nI (plF T (T 413) k i))) 412 63 = nI (com T (T 413) k) := by rw [si_ne (by omega)]; exact hc2
    have l3 : h_iv (h_si h2 458 i (nI (plF T (T 413) k i))) 412 68 = nI (plV T (T 413) k i) := by rw [si_ne (by omega)]; exact hl2
    have old3 : ∀ j, j < i → h_iv (h_si h2 458 i (nI (plF T (T 413) k i))) 456 j = h_iv h2 456 j ∧ h_iv (h_si h2 458 i (nI (plF T (T 413) k i))) 457 j = h_iv h2 457 j ∧ h_iv (h_si h2 458 i (nI (plF T (T 413) k i))) 458 j = h_iv h2 458 j ∧ h_iv (h_si h2 458 i (nI (plF T (T 413) k i))) 459 j = h_iv h2 459 j := fun j hj => ⟨si_ne (by omega), si_ne (by omega), si_ne (by omega), si_ne (by omega)⟩
    have at3 : h_iv (h_si h2 458 i (nI (plF T (T 413) k i))) 458 i = nI (plF T (T 413) k i) := si_at
    have htm : T 413 0 < 1000000 := by omega
    have n10 : ¬ nI 1 = nI 0 := fun q => absurd ((nI_eq (by decide) (by decide)).mp q) (by decide)
    have r1 := r_isRested hS3 z3 e5
    have r2 := r_isEngineOut hS3 z3 e5
    have eC : plC T (T 413) k (plF T (T 413) k i) i = if rstd (T 413) (T 434 (5 * k + i)) || eout (T 413) (T 434 (5 * k + i)) then 0 else crw (tyE T (T 434 (5 * k + i))) (Kc T) (arr T (T 413)) (T 426 (T 434 (5 * k + i))) (T 412 8) (plF T (T 413) k i) := rfl
    have eS : plS T (T 413) k (plF T (T 413) k i) i = if rstd (T 413) (T 434 (5 * k + i)) then 1 else if eout (T 413) (T 434 (5 * k + i)) then 2 else if plC T (T 413) k (plF T (T 413) k i) i = 0 then 3 else 0 := rfl
    have eL : plV T (T 413) k (i + 1) = plV T (T 413) k i + if plC T (T 413) k (plF T (T 413) k i) i = 0 then 0 else 1 := rfl
    simp (maxSteps := 3000000) (disch := first | assumption | omega) only [m_X12_plans_L58, bO_v, bR_v, bX_l, bX_r, bC_l, bC_r, aLet_v, nI_add, pk_mul, dvI_n, rmI_n, iMax_n, iMin_n, zO_0, zO_1, li_0, li_1, li_2, li_3, li_4, li_5, li_6, li_7, li_8, li_9, li_10, li_12, li_14, li_15, li_16, li_18, li_19, li_20, li_22, li_23, li_24, li_26, li_29, li_30, li_31, li_32, li_36, li_38, li_48, li_50, li_57, li_58, li_59, li_60, li_63, li_97, li_99, li_120, li_122, li_144, li_168, li_194, li_240, li_255, li_284, li_299, li_603, li_999, li_1200, li_1440, li_4095, li_4096, li_6030, li_16384, li_20160, r_p433 hS2, r_c433_al hS2, r_p434 hS2, r_c434_al hS2, r_p458 hS2, r_c458_as hS2, r_p456 hS3, r_cM_gS hS3, z2.c433, z2.c434, nI_ltI, r1, b2i_0]
    rw [if_pos hlt]
    generalize h_si h2 458 i (nI (plF T (T 413) k i)) = h3 at hS3 F3 z3 c3 l3 old3 at3 r1 r2 ⊢
    refine aJ_gen (R := fun o => OK o _) (fun k121 hk121 => ?_)
    refine aJ_gen (R := fun o => OK o _) (fun k110 hk110 => ?_)
    have K121 : ∀ (H : aH), Sh H → Fx SCx h H → h_iv H 412 63 = nI (com T (T 413) k) → h_iv H 412 68 = nI (plV T (T 413) k i) → (∀ j, j < i → h_iv H 456 j = h_iv h2 456 j ∧ h_iv H 457 j = h_iv h2 457 j ∧ h_iv H 458 j = h_iv h2 458 j ∧ h_iv H 459 j = h_iv h2 459 j) → h_iv H 458 i = nI (plF T (T 413) k i) →
        OK (k121 (nI (plC T (T 413) k (plF T (T 413) k i) i)) H) (fun _ h1 => Fx SCx h h1 ∧ h_iv h1 412 63 = nI (com T (T 413) k) ∧ h_iv h1 412 68 = nI (plV T (T 413) k (T 433 k)) ∧ pP T (T 413) k h1 (T 433 k)) := by
      intro H sH fH cH lH oH aH4
      have fin3 := fun s g L h6 h7 h8 => fin H (plC T (T 413) k (plF T (T 413) k i) i) s g L fH cH oH aH4 rfl h6 h7 h8
      generalize plC T (T 413) k (plF T (T 413) k i) i = C at *
      have sH1 := sH.si 456 i (nI C)
      have zH1 : RefR (h_si H 456 i (nI C)) T := (z.fx fH SCx_no).sc (by unfold rfC; omega)
      have l1 : h_iv (h_si H 456 i (nI C)) 412 68 = nI (plV T (T 413) k i) := by rw [si_ne (by omega)]; exact lH
      have g1 : h_iv (h_si H 456 i (nI C)) 456 i = nI C := si_at
      have q1 := r_isRested sH1 zH1 e5
      have q2 := r_isEngineOut sH1 zH1 e5
      rw [hk121]
      simp (maxSteps := 3000000) (disch := first | assumption | omega) only [bO_v, bR_v, bX_l, bX_r, bC_l, bC_r, aLet_v, nI_add, pk_mul, dvI_n, rmI_n, iMax_n, iMin_n, zO_0, zO_1, li_0, li_1, li_2, li_3, li_4, li_5, li_6, li_7, li_8, li_9, li_10, li_12, li_14, li_15, li_16, li_18, li_19, li_20, li_22, li_23, li_24, li_26, li_29, li_30, li_31, li_32, li_36, li_38, li_48, li_50, li_57, li_58, li_59, li_60, li_63, li_97, li_99, li_120, li_122, li_144, li_168, li_194, li_240, li_255, li_284, li_299, li_603, li_999, li_1200, li_1440, li_4095, li_4096, li_6030, li_16384, li_20160, r_c456_as sH, r_p457 sH1, r_cM_gS sH1, q1, b2i_0]
      generalize h_si H 456 i (nI C) = H1 at sH1 zH1 l1 g1 q1 q2 fin3 ⊢
      refine aJ_gen (R := fun o => OK o _) (fun k167 hk167 => ?_)
      have K167 : OK (k167 (nI (plS T (T 413) k (plF T (T 413) k i) i)) H1) (fun _ h1 => Fx SCx h h1 ∧ h_iv h1 412 63 = nI (com T (T 413) k) ∧ h_iv h1 412 68 = nI (plV T (T 413) k (T 433 k)) ∧ pP T (T 413) k h1 (T 433 k)) := by
        have fin4 := fun g L h7 h8 => fin3 (plS T (T 413) k (plF T (T 413) k i) i) g L rfl h7 h8
        generalize plS T (T 413) k (plF T (T 413) k i) i = s at *
        have sH2 := sH1.si 457 i (nI s)
        have zH2 : RefR (h_si H1 457 i (nI s)) T := zH1.sc (by unfold rfC; omega)
        have l2 : h_iv (h_si H1 457 i (nI s)) 412 68 = nI (plV T (T 413) k i) := by rw [si_ne (by omega)]; exact l1
        have g2 : h_iv (h_si H1 457 i (nI s)) 456 i = nI C := by rw [si_ne (by omega)]; exact g1
        have t2 := r_latest sH2 zH2 hD htm hC2
        have sH3 := sH2.si 459 i (nI (latK (arr T (T 413)) C (T 412 8)))
        have l3 : h_iv (h_si (h_si H1 457 i (nI s)) 459 i (nI (latK (arr T (T 413)) C (T 412 8)))) 412 68 = nI (plV T (T 413) k i) := by rw [si_ne (by omega)]; exact l2
        have g3 : h_iv (h_si (h_si H1 457 i (nI s)) 459 i (nI (latK (arr T (T 413)) C (T 412 8)))) 456 i = nI C := by rw [si_ne (by omega)]; exact g2
        rw [hk167]
        simp (maxSteps := 3000000) (disch := first | assumption | omega) only [bO_v, bR_v, bX_l, bX_r, bC_l, bC_r, aLet_v, nI_add, pk_mul, dvI_n, rmI_n, iMax_n, iMin_n, zO_0, zO_1, li_0, li_1, li_2, li_3, li_4, li_5, li_6, li_7, li_8, li_9, li_10, li_12, li_14, li_15, li_16, li_18, li_19, li_20, li_22, li_23, li_24, li_26, li_29, li_30, li_31, li_32, li_36, li_38, li_48, li_50, li_57, li_58, li_59, li_60, li_63, li_97, li_99, li_120, li_122, li_144, li_168, li_194, li_240, li_255, li_284, li_299, li_603, li_999, li_1200, li_1440, li_4095, li_4096, li_6030, li_16384, li_20160, r_c457_as sH1, r_p459 sH2, r_p456 sH2, r_c456_al sH2, g2, r_cM_gS sH2, t2, r_c459_as sH2, r_p456 sH3, r_c456_al sH3, r_cM_gi sH3, r_cM_pi sH3, g3, l3, ldf_is hA2, nI_eq, aJ_v]
        by_cases cz : C = 0
        · rw [if_pos cz]
          exact fin4 _ _ rfl (by rw [eL, if_pos cz])
        · rw [if_neg cz]
          exact fin4 _ _ rfl (by rw [eL, if_neg cz])
      cases w1 : rstd (T 413) (T 434 (5 * k + i))
      · rw [if_pos rfl]
        simp (maxSteps := 3000000) (disch := first | assumption | omega) only [bO_v, bR_v, bX_l, bX_r, bC_l, bC_r, aLet_v, nI_add, pk_mul, dvI_n, rmI_n, iMax_n, iMin_n, zO_0, zO_1, li_0, li_1, li_2, li_3, li_4, li_5, li_6, li_7, li_8, li_9, li_10, li_12, li_14, li_15, li_16, li_18, li_19, li_20, li_22, li_23, li_24, li_26, li_29, li_30, li_31, li_32, li_36, li_38, li_48, li_50, li_57, li_58, li_59, li_60, li_63, li_97, li_99, li_120, li_122, li_144, li_168, li_194, li_240, li_255, li_284, li_299, li_603, li_999, li_1200, li_1440, li_4095, li_4096, li_6030, li_16384, li_20160, r_cM_gS sH1, q2, b2i_0]
        cases w2 : eout (T 413) (T 434 (5 * k + i))
        · rw [if_pos rfl]
          simp (maxSteps := 3000000) (disch := first | assumption | omega) only [bO_v, bR_v, bX_l, bX_r, bC_l, bC_r, aLet_v, nI_add, pk_mul, dvI_n, rmI_n, iMax_n, iMin_n, zO_0, zO_1, li_0, li_1, li_2, li_3, li_4, li_5, li_6, li_7, li_8, li_9, li_10, li_12, li_14, li_15, li_16, li_18, li_19, li_20, li_22, li_23, li_24, li_26, li_29, li_30, li_31, li_32, li_36, li_38, li_48, li_50, li_57, li_58, li_59, li_60, li_63, li_97, li_99, li_120, li_122, li_144, li_168, li_194, li_240, li_255, li_284, li_299, li_603, li_999, li_1200, li_1440, li_4095, li_4096, li_6030, li_16384, li_20160, r_p456 sH1, r_c456_al sH1, g1, nI_eq]
          rw [eS, w1, w2] at K167
          by_cases cz : C = 0
          · rw [if_pos cz]
            simpa [cz] using K167
          · rw [if_neg cz]
            simpa [cz] using K167
        · rw [if_neg (by decide)]
          rw [eS, w1, w2] at K167
          exact K167
      · rw [if_neg (by decide)]
        rw [eS, w1] at K167
        exact K167
    cases w1 : rstd (T 413) (T 434 (5 * k + i))
    · rw [if_pos rfl]
      simp (maxSteps := 3000000) (disch := first | assumption | omega) only [bO_v, bR_v, bX_l, bX_r, bC_l, bC_r, aLet_v, nI_add, pk_mul, dvI_n, rmI_n, iMax_n, iMin_n, zO_0, zO_1, li_0, li_1, li_2, li_3, li_4, li_5, li_6, li_7, li_8, li_9, li_10, li_12, li_14, li_15, li_16, li_18, li_19, li_20, li_22, li_23, li_24, li_26, li_29, li_30, li_31, li_32, li_36, li_38, li_48, li_50, li_57, li_58, li_59, li_60, li_63, li_97, li_99, li_120, li_122, li_144, li_168, li_194, li_240, li_255, li_284, li_299, li_603, li_999, li_1200, li_1440, li_4095, li_4096, li_6030, li_16384, li_20160, r_cM_gS hS3, r2, b2i_0]
      cases w2 : eout (T 413) (T 434 (5 * k + i))
      · rw [if_pos rfl]
        refine ok_bR (r_crewOf hS3 z3 hD htm he hA) (fun r h4 hh => ?_)
        obtain ⟨rfl, hF4⟩ := hh
        have K := K121 h4 (hF4.sh hS3) (F3.trans (hF4.fx.mono (fun o k q => Or.inl (by omega)))) (by rw [hF4.iv (by omega)]; exact c3) (by rw [hF4.iv (by omega)]; exact l3) (fun j hj => by
          rw [hF4.iv (show ¬ 456 = 460 by decide), hF4.iv (show ¬ 457 = 460 by decide), hF4.iv (show ¬ 458 = 460 by decide), hF4.iv (show ¬ 459 = 460 by decide)]
          exact old3 j hj) (by rw [hF4.iv (by omega)]; exact at3)
        rw [eC, w1, w2] at K
        exact K
      · rw [if_neg (by decide), hk110]
        have K := K121 h3 hS3 F3 c3 l3 old3 at3
        rw [eC, w1, w2] at K
        exact K
    · rw [if_neg (by decide), hk110]
      have K := K121 h3 hS3 F3 c3 l3 old3 at3
      rw [eC, w1] at K
      exact K
  · obtain rfl : i = T 433 k := by omega
    simp (maxSteps := 3000000) (disch := first | assumption | omega) only [m_X12_plans_L58, bO_v, bR_v, bX_l, bX_r, bC_l, bC_r, aJ_v, aLet_v, nI_add, pk_mul, dvI_n, rmI_n, iMax_n, iMin_n, zO_0, zO_1, li_0, li_1, li_2, li_3, li_4, li_5, li_6, li_7, li_8, li_9, li_10, li_12, li_14, li_15, li_16, li_18, li_19, li_20, li_22, li_23, li_24, li_26, li_29, li_30, li_31, li_32, li_36, li_38, li_48, li_50, li_57, li_58, li_59, li_60, li_63, li_97, li_99, li_120, li_122, li_144, li_168, li_194, li_240, li_255, li_284, li_299, li_603, li_999, li_1200, li_1440, li_4095, li_4096, li_6030, li_16384, li_20160, r_p433 hS2, r_c433_al hS2, z2.c433, nI_ltI]
    rw [if_neg hlt]
    exact ok_ret ⟨hF2, hc2, hl2, hP2⟩
end
