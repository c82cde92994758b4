/-! the class is made -/
section
variable {f : Nat → Nat → Int32} {h : aH}
theorem xs_134 : XS 134 133 4 := ⟨by unfold XS0; decide +kernel, by unfold XS1; decide +kernel, by unfold XS2; decide +kernel, by unfold XS3; decide +kernel, by unfold XS4; decide +kernel, by unfold XS5; decide +kernel, by unfold XS6; decide +kernel, by unfold XS7; decide +kernel⟩
theorem xs_153 : XS 153 153 4 := ⟨by unfold XS0; decide +kernel, by unfold XS1; decide +kernel, by unfold XS2; decide +kernel, by unfold XS3; decide +kernel, by unfold XS4; decide +kernel, by unfold XS5; decide +kernel, by unfold XS6; decide +kernel, by unfold XS7; decide +kernel⟩
theorem xs_k0 : ∀ i, i < 10 → XS0 (184 + 19 * i) (186 + 20 * i) 4 := by unfold XS0; decide +kernel
theorem xs_k1 : ∀ i, i < 10 → XS1 (184 + 19 * i) (186 + 20 * i) 4 := by unfold XS1; decide +kernel
theorem xs_k2 : ∀ i, i < 10 → XS2 (184 + 19 * i) (186 + 20 * i) 4 := by unfold XS2; decide +kernel
theorem xs_k3 : ∀ i, i < 10 → XS3 (184 + 19 * i) (186 + 20 * i) 4 := by unfold XS3; decide +kernel
theorem xs_k4 : ∀ i, i < 10 → XS4 (184 + 19 * i) (186 + 20 * i) 4 := by unfold XS4; decide +kernel
theorem xs_k5 : ∀ i, i < 10 → XS5 (184 + 19 * i) (186 + 20 * i) 4 := by unfold XS5; decide +kernel
theorem xs_k6 : ∀ i, i < 10 → XS6 (184 + 19 * i) (186 + 20 * i) 4 := by unfold XS6; decide +kernel
theorem xs_k7 : ∀ i, i < 10 → XS7 (184 + 19 * i) (186 + 20 * i) 4 := by unfold XS7; decide +kernel
theorem xs_kp : ∀ i, i < 10 → ptT[186 + 20 * i + 19]? = some (181, i, 184 + 19 * i) ∧ RVp (186 + 20 * i) 180 1 = 181 := by decide +kernel
theorem xs_k : ∀ i, i < 10 → XS (184 + 19 * i) (186 + 20 * i) 4 ∧ ptT[186 + 20 * i + 19]? = some (181, i, 184 + 19 * i) ∧ RVp (186 + 20 * i) 180 1 = 181 := fun i hi => ⟨⟨xs_k0 i hi, xs_k1 i hi, xs_k2 i hi, xs_k3 i hi, xs_k4 i hi, xs_k5 i hi, xs_k6 i hi, xs_k7 i hi⟩, xs_kp i hi⟩
theorem xs_s0 : ∀ i, i < 2 → XS0 (374 + 19 * i) (386 + 20 * i) 4 := by unfold XS0; decide +kernel
theorem xs_s1 : ∀ i, i < 2 → XS1 (374 + 19 * i) (386 + 20 * i) 4 := by unfold XS1; decide +kernel
theorem xs_s2 : ∀ i, i < 2 → XS2 (374 + 19 * i) (386 + 20 * i) 4 := by unfold XS2; decide +kernel
theorem xs_s3 : ∀ i, i < 2 → XS3 (374 + 19 * i) (386 + 20 * i) 4 := by unfold XS3; decide +kernel
theorem xs_s4 : ∀ i, i < 2 → XS4 (374 + 19 * i) (386 + 20 * i) 4 := by unfold XS4; decide +kernel
theorem xs_s5 : ∀ i, i < 2 → XS5 (374 + 19 * i) (386 + 20 * i) 4 := by unfold XS5; decide +kernel
theorem xs_s6 : ∀ i, i < 2 → XS6 (374 + 19 * i) (386 + 20 * i) 4 := by unfold XS6; decide +kernel
theorem xs_s7 : ∀ i, i < 2 → XS7 (374 + 19 * i) (386 + 20 * i) 4 := by unfold XS7; decide +kernel
theorem xs_sp : ∀ i, i < 2 → ptT[386 + 20 * i + 19]? = some (182, i, 374 + 19 * i) ∧ RVp (386 + 20 * i) 180 2 = 182 := by decide +kernel
theorem xs_s : ∀ i, i < 2 → XS (374 + 19 * i) (386 + 20 * i) 4 ∧ ptT[386 + 20 * i + 19]? = some (182, i, 374 + 19 * i) ∧ RVp (386 + 20 * i) 180 2 = 182 := fun i hi => ⟨⟨xs_s0 i hi, xs_s1 i hi, xs_s2 i hi, xs_s3 i hi, xs_s4 i hi, xs_s5 i hi, xs_s6 i hi, xs_s7 i hi⟩, xs_sp i hi⟩
theorem f69_4 : ∀ i, i < 12 → shT[12 + 1 * i]? = some (17, 3) ∧ ptT[10 + 1 * i]? = some (6, i, 12 + 1 * i) ∧ RVp (10 + 1 * i) 4 2 = 6 := by decide +kernel
theorem f96_4 : ∀ i, i < 6 → shT[24 + 2 * i]? = some (16, 5) ∧ shT[24 + 2 * i + 1]? = some (1, 8) ∧ ptT[22 + 2 * i]? = some (24 + 2 * i, 4, 24 + 2 * i + 1) ∧ ptT[22 + 2 * i + 1]? = some (8, i, 24 + 2 * i) ∧ RVp (22 + 2 * i) 4 6 = 8 := by decide +kernel
theorem f123_4 : ∀ i, i < 5 → shT[36 + 3 * i]? = some (11, 5) ∧ shT[36 + 3 * i + 1]? = some (1, 6) ∧ shT[36 + 3 * i + 2]? = some (1, 32) ∧ ptT[34 + 3 * i]? = some (36 + 3 * i, 3, 36 + 3 * i + 1) ∧ ptT[34 + 3 * i + 1]? = some (36 + 3 * i, 4, 36 + 3 * i + 2) ∧ ptT[34 + 3 * i + 2]? = some (9, i, 36 + 3 * i) ∧ RVp (34 + 3 * i) 4 8 = 9 := by decide +kernel
theorem f149_4 : ∀ i, i < 6 → shT[51 + 3 * i]? = some (13, 8) ∧ shT[51 + 3 * i + 1]? = some (1, 6) ∧ shT[51 + 3 * i + 2]? = some (1, 5) ∧ ptT[49 + 3 * i]? = some (51 + 3 * i, 5, 51 + 3 * i + 1) ∧ ptT[49 + 3 * i + 1]? = some (51 + 3 * i, 7, 51 + 3 * i + 2) ∧ ptT[49 + 3 * i + 2]? = some (10, i, 51 + 3 * i) ∧ RVp (49 + 3 * i) 4 10 = 10 := by decide +kernel
theorem i_X8_4 (b0 : B 5 3 f h) : OK (m_X8_init 4 h) (fun _ h1 => B 69 67 f h1) := by
  generalize hK : (fun (_ : Unit) (h1 : aH) => B 69 67 f h1) = K
  simp (maxSteps := 3000000) (disch := first | assumption | omega) only [m_X8_init, bO_v, bR_v, bX_l, bX_r, bC_l, bC_r, aJ_v, aLet_v, nI_add, pk_mul, dvI_n, rmI_n, iMax_n, iMin_n, zO_0, zO_1, li_0, li_1, li_2, li_3, li_4, li_5, li_6, li_7, li_8, li_9, li_10, li_12, li_14, li_15, li_16, li_18, li_19, li_20, li_22, li_23, li_24, li_26, li_29, li_30, li_31, li_32, li_36, li_38, li_48, li_50, li_57, li_58, li_59, li_60, li_63, li_97, li_99, li_120, li_122, li_144, li_168, li_194, li_240, li_255, li_284, li_299, li_603, li_999, li_1200, li_1440, li_4095, li_4096, li_6030, li_16384, li_20160, zl0, zl1, zl2, zl3, zl4, ze01, ze02, ze03, ze04, ze10, ze12, ze13, ze14, ze20, ze21, ze23, ze24, ze30, ze31, ze32, ze34, ze40, ze41, ze42, ze43, zt0, zt1, zt2, zt3, zt4, zq0, zq1, zq2, zq3, zq4, it_t, it_f, Bool.true_eq_false, Bool.false_eq_true, na5, na4, na1441, na2, na10, sx_IOIA, sx_IOIS, sx_IONS, sx_IAIO, sx_IAIS, sx_IANS, sx_ISIO, sx_ISIA, sx_ISNS, sx_NSIO, sx_NSIA, sx_NSIS]
  refine s_new b0 (by decide +kernel) (m := 6) rfl (fun o => OK o K) (fun h1 b1 => ?_)
  refine s_bR (ok_ret (P := fun _ h1 => B 6 3 f h1) b1) (fun o => OK o K) (fun _ h2 b2 => ?_)
  refine s_pr b2 (s := 18) (l := 12) (by decide +kernel) rfl (by decide) (by decide +kernel) (by decide) (q := 4) rfl (fun o => OK o K) (fun h3 b3 => ?_)
  refine s_new b3 (by decide +kernel) (m := 7) rfl (fun o => OK o K) (fun h4 b4 => ?_)
  refine s_pr b4 (s := 18) (l := 12) (by decide +kernel) rfl (by decide) (by decide +kernel) (by decide) (q := 5) rfl (fun o => OK o K) (fun h5 b5 => ?_)
  refine s_new b5 (by decide +kernel) (m := 8) rfl (fun o => OK o K) (fun h6 b6 => ?_)
  refine s_pr b6 (s := 18) (l := 12) (by decide +kernel) rfl (by decide) (by decide +kernel) (by decide) (q := 6) rfl (fun o => OK o K) (fun h7 b7 => ?_)
  refine s_new b7 (by decide +kernel) (m := 9) rfl (fun o => OK o K) (fun h8 b8 => ?_)
  refine s_pr b8 (s := 18) (l := 12) (by decide +kernel) rfl (by decide) (by decide +kernel) (by decide) (q := 7) rfl (fun o => OK o K) (fun h9 b9 => ?_)
  refine s_new b9 (by decide +kernel) (m := 10) rfl (fun o => OK o K) (fun h10 b10 => ?_)
  refine s_pr b10 (s := 18) (l := 12) (by decide +kernel) rfl (by decide) (by decide +kernel) (by decide) (q := 8) rfl (fun o => OK o K) (fun h11 b11 => ?_)
  refine s_new b11 (by decide +kernel) (m := 11) rfl (fun o => OK o K) (fun h12 b12 => ?_)
  refine s_pr b12 (s := 18) (l := 12) (by decide +kernel) rfl (by decide) (by decide +kernel) (by decide) (q := 9) rfl (fun o => OK o K) (fun h13 b13 => ?_)
  refine s_new b13 (by decide +kernel) (m := 12) rfl (fun o => OK o K) (fun h14 b14 => ?_)
  refine s_pr b14 (s := 18) (l := 12) (by decide +kernel) rfl (by decide) (by decide +kernel) (by decide) (q := 10) rfl (fun o => OK o K) (fun h15 b15 => ?_)
  refine aL1_run (R := fun o => OK o K) (fun m s1 g => ∃ i, i ≤ 12 ∧ m = 12 - i ∧ s1 = nI i ∧ B (12 + 1 * i) (10 + 1 * i) f g) ⟨0, Nat.zero_le _, rfl, rfl, b15⟩ (by omega) ?_
  clear b15
  rintro rec m s1 g ⟨i, hi, rfl, rfl, c0⟩ ih
  by_cases hlt : i < 12
  · obtain ⟨e1, e2, e3⟩ := f69_4 i hlt
    simp (maxSteps := 3000000) (disch := first | assumption | omega) only [m_X8_init_L69, bO_v, bR_v, bX_l, bX_r, bC_l, bC_r, aJ_v, aLet_v, nI_add, pk_mul, dvI_n, rmI_n, iMax_n, iMin_n, zO_0, zO_1, li_0, li_1, li_2, li_3, li_4, li_5, li_6, li_7, li_8, li_9, li_10, li_12, li_14, li_15, li_16, li_18, li_19, li_20, li_22, li_23, li_24, li_26, li_29, li_30, li_31, li_32, li_36, li_38, li_48, li_50, li_57, li_58, li_59, li_60, li_63, li_97, li_99, li_120, li_122, li_144, li_168, li_194, li_240, li_255, li_284, li_299, li_603, li_999, li_1200, li_1440, li_4095, li_4096, li_6030, li_16384, li_20160, zl0, zl1, zl2, zl3, zl4, ze01, ze02, ze03, ze04, ze10, ze12, ze13, ze14, ze20, ze21, ze23, ze24, ze30, ze31, ze32, ze34, ze40, ze41, ze42, ze43, zt0, zt1, zt2, zt3, zt4, zq0, zq1, zq2, zq3, zq4, it_t, it_f, Bool.true_eq_false, Bool.false_eq_true, na5, na4, na1441, na2, na10, sx_IOIA, sx_IOIS, sx_IONS, sx_IAIO, sx_IAIS, sx_IANS, sx_ISIO, sx_ISIA, sx_ISNS, sx_NSIO, sx_NSIA, sx_NSIS, nI_ltI, if_pos hlt]
    refine s_gr c0 (s := 18) (l := 12) (by decide +kernel) rfl (by omega) e3 (by decide) (fun o => OK o K) ?_
    refine s_new c0 e1 (m := 12 + 1 * i + 1) rfl (fun o => OK o K) (fun g1 c1 => ?_)
    refine s_bR (ok_ret (P := fun _ h1 => B (12 + 1 * i + 1) (10 + 1 * i) f h1) c1) (fun o => OK o K) (fun _ g2 c2 => ?_)
    refine s_asr c2 (l := 12) (by decide +kernel) (by omega) hlt (by decide) e1 rfl (by omega) e2 (q := 10 + 1 * i + 1) rfl (fun o => OK o K) (fun g9 c9 => ?_)
    refine ih _ _ _ (by omega) ⟨i + 1, hlt, rfl, rfl, ?_⟩
    rw [show 12 + 1 * (i + 1) = 12 + 1 * i + 1 by omega, show 10 + 1 * (i + 1) = 10 + 1 * i + 1 by omega]
    exact c9
  obtain rfl : i = 12 := by omega
  simp (maxSteps := 3000000) (disch := first | assumption | omega) only [m_X8_init_L69, bO_v, bR_v, bX_l, bX_r, bC_l, bC_r, aJ_v, aLet_v, nI_add, pk_mul, dvI_n, rmI_n, iMax_n, iMin_n, zO_0, zO_1, li_0, li_1, li_2, li_3, li_4, li_5, li_6, li_7, li_8, li_9, li_10, li_12, li_14, li_15, li_16, li_18, li_19, li_20, li_22, li_23, li_24, li_26, li_29, li_30, li_31, li_32, li_36, li_38, li_48, li_50, li_57, li_58, li_59, li_60, li_63, li_97, li_99, li_120, li_122, li_144, li_168, li_194, li_240, li_255, li_284, li_299, li_603, li_999, li_1200, li_1440, li_4095, li_4096, li_6030, li_16384, li_20160, zl0, zl1, zl2, zl3, zl4, ze01, ze02, ze03, ze04, ze10, ze12, ze13, ze14, ze20, ze21, ze23, ze24, ze30, ze31, ze32, ze34, ze40, ze41, ze42, ze43, zt0, zt1, zt2, zt3, zt4, zq0, zq1, zq2, zq3, zq4, it_t, it_f, Bool.true_eq_false, Bool.false_eq_true, na5, na4, na1441, na2, na10, sx_IOIA, sx_IOIS, sx_IONS, sx_IAIO, sx_IAIS, sx_IANS, sx_ISIO, sx_ISIA, sx_ISNS, sx_NSIO, sx_NSIA, sx_NSIS, nI_ltI, if_neg hlt]
  clear ih hlt hi
  refine aL1_run (R := fun o => OK o K) (fun m s1 g => ∃ i, i ≤ 6 ∧ m = 6 - i ∧ s1 = nI i ∧ B (24 + 2 * i) (22 + 2 * i) f g) ⟨0, Nat.zero_le _, rfl, rfl, c0⟩ (by omega) ?_
  clear c0
  rintro rec m s1 g ⟨i, hi, rfl, rfl, c0⟩ ih
  by_cases hlt : i < 6
  · obtain ⟨e1, e2, e3, e4, e5⟩ := f96_4 i hlt
    simp (maxSteps := 3000000) (disch := first | assumption | omega) only [m_X8_init_L96, bO_v, bR_v, bX_l, bX_r, bC_l, bC_r, aJ_v, aLet_v, nI_add, pk_mul, dvI_n, rmI_n, iMax_n, iMin_n, zO_0, zO_1, li_0, li_1, li_2, li_3, li_4, li_5, li_6, li_7, li_8, li_9, li_10, li_12, li_14, li_15, li_16, li_18, li_19, li_20, li_22, li_23, li_24, li_26, li_29, li_30, li_31, li_32, li_36, li_38, li_48, li_50, li_57, li_58, li_59, li_60, li_63, li_97, li_99, li_120, li_122, li_144, li_168, li_194, li_240, li_255, li_284, li_299, li_603, li_999, li_1200, li_1440, li_4095, li_4096, li_6030, li_16384, li_20160, zl0, zl1, zl2, zl3, zl4, ze01, ze02, ze03, ze04, ze10, ze12, ze13, ze14, ze20, ze21, ze23, ze24, ze30, ze31, ze32, ze34, ze40, ze41, ze42, ze43, zt0, zt1, zt2, zt3, zt4, zq0, zq1, zq2, zq3, zq4, it_t, it_f, Bool.true_eq_false, Bool.false_eq_true, na5, na4, na1441, na2, na10, sx_IOIA, sx_IOIS, sx_IONS, sx_IAIO, sx_IAIS, sx_IANS, sx_ISIO, sx_ISIA, sx_ISNS, sx_NSIO, sx_NSIA, sx_NSIS, nI_ltI, if_pos hlt]
    refine s_gr c0 (s := 18) (l := 12) (by decide +kernel) rfl (by omega) e5 (by decide) (fun o => OK o K) ?_
    refine s_new c0 e1 (m := 24 + 2 * i + 1) rfl (fun o => OK o K) (fun g1 c1 => ?_)
    have x6 : OK (m_X6_init (24 + 2 * i) g1) (fun _ h1 => B (24 + 2 * i + 2) (22 + 2 * i + 1) f h1) := by
      unfold m_X6_init
      refine s_new c1 e2 (m := 24 + 2 * i + 2) rfl (fun o => OK o (fun _ h1 => B (24 + 2 * i + 2) (22 + 2 * i + 1) f h1)) (fun g2 c2 => ?_)
      refine s_pr c2 e1 rfl (by omega) e3 (by omega) (q := 22 + 2 * i + 1) rfl (fun o => OK o (fun _ h1 => B (24 + 2 * i + 2) (22 + 2 * i + 1) f h1)) (fun g3 c3 => ?_)
      exact ok_ret c3
    refine s_bR x6 (fun o => OK o K) (fun _ g2 c2 => ?_)
    refine s_asr c2 (l := 6) (by decide +kernel) (by omega) hlt (by decide) e1 rfl (by omega) e4 (q := 22 + 2 * i + 2) rfl (fun o => OK o K) (fun g9 c9 => ?_)
    refine ih _ _ _ (by omega) ⟨i + 1, hlt, rfl, rfl, ?_⟩
    rw [show 24 + 2 * (i + 1) = 24 + 2 * i + 2 by omega, show 22 + 2 * (i + 1) = 22 + 2 * i + 2 by omega]
    exact c9
  obtain rfl : i = 6 := by omega
  simp (maxSteps := 3000000) (disch := first | assumption | omega) only [m_X8_init_L96, bO_v, bR_v, bX_l, bX_r, bC_l, bC_r, aJ_v, aLet_v, nI_add, pk_mul, dvI_n, rmI_n, iMax_n, iMin_n, zO_0, zO_1, li_0, li_1, li_2, li_3, li_4, li_5, li_6, li_7, li_8, li_9, li_10, li_12, li_14, li_15, li_16, li_18, li_19, li_20, li_22, li_23, li_24, li_26, li_29, li_30, li_31, li_32, li_36, li_38, li_48, li_50, li_57, li_58, li_59, li_60, li_63, li_97, li_99, li_120, li_122, li_144, li_168, li_194, li_240, li_255, li_284, li_299, li_603, li_999, li_1200, li_1440, li_4095, li_4096, li_6030, li_16384, li_20160, zl0, zl1, zl2, zl3, zl4, ze01, ze02, ze03, ze04, ze10, ze12, ze13, ze14, ze20, ze21, ze23, ze24, ze30, ze31, ze32, ze34, ze40, ze41, ze42, ze43, zt0, zt1, zt2, zt3, zt4, zq0, zq1, zq2, zq3, zq4, it_t, it_f, Bool.true_eq_false, Bool.false_eq_true, na5, na4, na1441, na2, na10, sx_IOIA, sx_IOIS, sx_IONS, sx_IAIO, sx_IAIS, sx_IANS, sx_ISIO, sx_ISIA, sx_ISNS, sx_NSIO, sx_NSIA, sx_NSIS, nI_ltI, if_neg hlt]
  clear ih hlt hi
  refine aL1_run (R := fun o => OK o K) (fun m s1 g => ∃ i, i ≤ 5 ∧ m = 5 - i ∧ s1 = nI i ∧ B (36 + 3 * i) (34 + 3 * i) f g) ⟨0, Nat.zero_le _, rfl, rfl, c0⟩ (by omega) ?_
  clear c0
  rintro rec m s1 g ⟨i, hi, rfl, rfl, c0⟩ ih
  by_cases hlt : i < 5
  · obtain ⟨e1, e2, e3, e4, e5, e6, e7⟩ := f123_4 i hlt
    simp (maxSteps := 3000000) (disch := first | assumption | omega) only [m_X8_init_L123, bO_v, bR_v, bX_l, bX_r, bC_l, bC_r, aJ_v, aLet_v, nI_add, pk_mul, dvI_n, rmI_n, iMax_n, iMin_n, zO_0, zO_1, li_0, li_1, li_2, li_3, li_4, li_5, li_6, li_7, li_8, li_9, li_10, li_12, li_14, li_15, li_16, li_18, li_19, li_20, li_22, li_23, li_24, li_26, li_29, li_30, li_31, li_32, li_36, li_38, li_48, li_50, li_57, li_58, li_59, li_60, li_63, li_97, li_99, li_120, li_122, li_144, li_168, li_194, li_240, li_255, li_284, li_299, li_603, li_999, li_1200, li_1440, li_4095, li_4096, li_6030, li_16384, li_20160, zl0, zl1, zl2, zl3, zl4, ze01, ze02, ze03, ze04, ze10, ze12, ze13, ze14, ze20, ze21, ze23, ze24, ze30, ze31, ze32, ze34, ze40, ze41, ze42, ze43, zt0, zt1, zt2, zt3, zt4, zq0, zq1, zq2, zq3, zq4, it_t, it_f, Bool.true_eq_false, Bool.false_eq_true, na5, na4, na1441, na2, na10, sx_IOIA, sx_IOIS, sx_IONS, sx_IAIO, sx_IAIS, sx_IANS, sx_ISIO, sx_ISIA, sx_ISNS, sx_NSIO, sx_NSIA, sx_NSIS, nI_ltI, if_pos hlt]
    refine s_gr c0 (s := 18) (l := 12) (by decide +kernel) rfl (by omega) e7 (by decide) (fun o => OK o K) ?_
    refine s_new c0 e1 (m := 36 + 3 * i + 1) rfl (fun o => OK o K) (fun g1 c1 => ?_)
    have x6 : OK (m_X1_init (36 + 3 * i) g1) (fun _ h1 => B (36 + 3 * i + 3) (34 + 3 * i + 2) f h1) := by
      unfold m_X1_init
      refine s_new c1 e2 (m := 36 + 3 * i + 2) rfl (fun o => OK o (fun _ h1 => B (36 + 3 * i + 3) (34 + 3 * i + 2) f h1)) (fun g2 c2 => ?_)
      refine s_pr c2 e1 rfl (by omega) e4 (by omega) (q := 34 + 3 * i + 1) rfl (fun o => OK o (fun _ h1 => B (36 + 3 * i + 3) (34 + 3 * i + 2) f h1)) (fun g3 c3 => ?_)
      refine s_new c3 e3 (m := 36 + 3 * i + 3) rfl (fun o => OK o (fun _ h1 => B (36 + 3 * i + 3) (34 + 3 * i + 2) f h1)) (fun g4 c4 => ?_)
      refine s_pr c4 e1 rfl (by omega) e5 (by omega) (q := 34 + 3 * i + 2) rfl (fun o => OK o (fun _ h1 => B (36 + 3 * i + 3) (34 + 3 * i + 2) f h1)) (fun g5 c5 => ?_)
      exact ok_ret c5
    refine s_bR x6 (fun o => OK o K) (fun _ g2 c2 => ?_)
    refine s_asr c2 (l := 5) (by decide +kernel) (by omega) hlt (by decide) e1 rfl (by omega) e6 (q := 34 + 3 * i + 3) rfl (fun o => OK o K) (fun g9 c9 => ?_)
    refine ih _ _ _ (by omega) ⟨i + 1, hlt, rfl, rfl, ?_⟩
    rw [show 36 + 3 * (i + 1) = 36 + 3 * i + 3 by omega, show 34 + 3 * (i + 1) = 34 + 3 * i + 3 by omega]
    exact c9
  obtain rfl : i = 5 := by omega
  simp (maxSteps := 3000000) (disch := first | assumption | omega) only [m_X8_init_L123, bO_v, bR_v, bX_l, bX_r, bC_l, bC_r, aJ_v, aLet_v, nI_add, pk_mul, dvI_n, rmI_n, iMax_n, iMin_n, zO_0, zO_1, li_0, li_1, li_2, li_3, li_4, li_5, li_6, li_7, li_8, li_9, li_10, li_12, li_14, li_15, li_16, li_18, li_19, li_20, li_22, li_23, li_24, li_26, li_29, li_30, li_31, li_32, li_36, li_38, li_48, li_50, li_57, li_58, li_59, li_60, li_63, li_97, li_99, li_120, li_122, li_144, li_168, li_194, li_240, li_255, li_284, li_299, li_603, li_999, li_1200, li_1440, li_4095, li_4096, li_6030, li_16384, li_20160, zl0, zl1, zl2, zl3, zl4, ze01, ze02, ze03, ze04, ze10, ze12, ze13, ze14, ze20, ze21, ze23, ze24, ze30, ze31, ze32, ze34, ze40, ze41, ze42, ze43, zt0, zt1, zt2, zt3, zt4, zq0, zq1, zq2, zq3, zq4, it_t, it_f, Bool.true_eq_false, Bool.false_eq_true, na5, na4, na1441, na2, na10, sx_IOIA, sx_IOIS, sx_IONS, sx_IAIO, sx_IAIS, sx_IANS, sx_ISIO, sx_ISIA, sx_ISNS, sx_NSIO, sx_NSIA, sx_NSIS, nI_ltI, if_neg hlt]
  clear ih hlt hi
  refine aL1_run (R := fun o => OK o K) (fun m s1 g => ∃ i, i ≤ 6 ∧ m = 6 - i ∧ s1 = nI i ∧ B (51 + 3 * i) (49 + 3 * i) f g) ⟨0, Nat.zero_le _, rfl, rfl, c0⟩ (by omega) ?_
  clear c0
  rintro rec m s1 g ⟨i, hi, rfl, rfl, c0⟩ ih
  by_cases hlt : i < 6
  · obtain ⟨e1, e2, e3, e4, e5, e6, e7⟩ := f149_4 i hlt
    simp (maxSteps := 3000000) (disch := first | assumption | omega) only [m_X8_init_L149, bO_v, bR_v, bX_l, bX_r, bC_l, bC_r, aJ_v, aLet_v, nI_add, pk_mul, dvI_n, rmI_n, iMax_n, iMin_n, zO_0, zO_1, li_0, li_1, li_2, li_3, li_4, li_5, li_6, li_7, li_8, li_9, li_10, li_12, li_14, li_15, li_16, li_18, li_19, li_20, li_22, li_23, li_24, li_26, li_29, li_30, li_31, li_32, li_36, li_38, li_48, li_50, li_57, li_58, li_59, li_60, li_63, li_97, li_99, li_120, li_122, li_144, li_168, li_194, li_240, li_255, li_284, li_299, li_603, li_999, li_1200, li_1440, li_4095, li_4096, li_6030, li_16384, li_20160, zl0, zl1, zl2, zl3, zl4, ze01, ze02, ze03, ze04, ze10, ze12, ze13, ze14, ze20, ze21, ze23, ze24, ze30, ze31, ze32, ze34, ze40, ze41, ze42, ze43, zt0, zt1, zt2, zt3, zt4, zq0, zq1, zq2, zq3, zq4, it_t, it_f, Bool.true_eq_false, Bool.false_eq_true, na5, na4, na1441, na2, na10, sx_IOIA, sx_IOIS, sx_IONS, sx_IAIO, sx_IAIS, sx_IANS, sx_ISIO, sx_ISIA, sx_ISNS, sx_NSIO, sx_NSIA, sx_NSIS, nI_ltI, if_pos hlt]
    refine s_gr c0 (s := 18) (l := 12) (by decide +kernel) rfl (by omega) e7 (by decide) (fun o => OK o K) ?_
    refine s_new c0 e1 (m := 51 + 3 * i + 1) rfl (fun o => OK o K) (fun g1 c1 => ?_)
    have x6 : OK (m_X3_init (51 + 3 * i) g1) (fun _ h1 => B (51 + 3 * i + 3) (49 + 3 * i + 2) f h1) := by
      unfold m_X3_init
      refine s_new c1 e2 (m := 51 + 3 * i + 2) rfl (fun o => OK o (fun _ h1 => B (51 + 3 * i + 3) (49 + 3 * i + 2) f h1)) (fun g2 c2 => ?_)
      refine s_pr c2 e1 rfl (by omega) e4 (by omega) (q := 49 + 3 * i + 1) rfl (fun o => OK o (fun _ h1 => B (51 + 3 * i + 3) (49 + 3 * i + 2) f h1)) (fun g3 c3 => ?_)
      refine s_new c3 e3 (m := 51 + 3 * i + 3) rfl (fun o => OK o (fun _ h1 => B (51 + 3 * i + 3) (49 + 3 * i + 2) f h1)) (fun g4 c4 => ?_)
      refine s_pr c4 e1 rfl (by omega) e5 (by omega) (q := 49 + 3 * i + 2) rfl (fun o => OK o (fun _ h1 => B (51 + 3 * i + 3) (49 + 3 * i + 2) f h1)) (fun g5 c5 => ?_)
      exact ok_ret c5
    refine s_bR x6 (fun o => OK o K) (fun _ g2 c2 => ?_)
    refine s_asr c2 (l := 6) (by decide +kernel) (by omega) hlt (by decide) e1 rfl (by omega) e6 (q := 49 + 3 * i + 3) rfl (fun o => OK o K) (fun g9 c9 => ?_)
    refine ih _ _ _ (by omega) ⟨i + 1, hlt, rfl, rfl, ?_⟩
    rw [show 51 + 3 * (i + 1) = 51 + 3 * i + 3 by omega, show 49 + 3 * (i + 1) = 49 + 3 * i + 3 by omega]
    exact c9
  obtain rfl : i = 6 := by omega
  simp (maxSteps := 3000000) (disch := first | assumption | omega) only [m_X8_init_L149, bO_v, bR_v, bX_l, bX_r, bC_l, bC_r, aJ_v, aLet_v, nI_add, pk_mul, dvI_n, rmI_n, iMax_n, iMin_n, zO_0, zO_1, li_0, li_1, li_2, li_3, li_4, li_5, li_6, li_7, li_8, li_9, li_10, li_12, li_14, li_15, li_16, li_18, li_19, li_20, li_22, li_23, li_24, li_26, li_29, li_30, li_31, li_32, li_36, li_38, li_48, li_50, li_57, li_58, li_59, li_60, li_63, li_97, li_99, li_120, li_122, li_144, li_168, li_194, li_240, li_255, li_284, li_299, li_603, li_999, li_1200, li_1440, li_4095, li_4096, li_6030, li_16384, li_20160, zl0, zl1, zl2, zl3, zl4, ze01, ze02, ze03, ze04, ze10, ze12, ze13, ze14, ze20, ze21, ze23, ze24, ze30, ze31, ze32, ze34, ze40, ze41, ze42, ze43, zt0, zt1, zt2, zt3, zt4, zq0, zq1, zq2, zq3, zq4, it_t, it_f, Bool.true_eq_false, Bool.false_eq_true, na5, na4, na1441, na2, na10, sx_IOIA, sx_IOIS, sx_IONS, sx_IAIO, sx_IAIS, sx_IANS, sx_ISIO, sx_ISIA, sx_ISNS, sx_NSIO, sx_NSIA, sx_NSIS, nI_ltI, if_neg hlt]
  clear ih hlt hi
  rw [← hK]
  exact ok_ret c0
theorem f69_69 : ∀ i, i < 12 → shT[77 + 1 * i]? = some (17, 3) ∧ ptT[75 + 1 * i]? = some (71, i, 77 + 1 * i) ∧ RVp (75 + 1 * i) 69 2 = 71 := by decide +kernel
theorem f96_69 : ∀ i, i < 6 → shT[89 + 2 * i]? = some (16, 5) ∧ shT[89 + 2 * i + 1]? = some (1, 8) ∧ ptT[87 + 2 * i]? = some (89 + 2 * i, 4, 89 + 2 * i + 1) ∧ ptT[87 + 2 * i + 1]? = some (73, i, 89 + 2 * i) ∧ RVp (87 + 2 * i) 69 6 = 73 := by decide +kernel
theorem f123_69 : ∀ i, i < 5 → shT[101 + 3 * i]? = some (11, 5) ∧ shT[101 + 3 * i + 1]? = some (1, 6) ∧ shT[101 + 3 * i + 2]? = some (1, 32) ∧ ptT[99 + 3 * i]? = some (101 + 3 * i, 3, 101 + 3 * i + 1) ∧ ptT[99 + 3 * i + 1]? = some (101 + 3 * i, 4, 101 + 3 * i + 2) ∧ ptT[99 + 3 * i + 2]? = some (74, i, 101 + 3 * i) ∧ RVp (99 + 3 * i) 69 8 = 74 := by decide +kernel
theorem f149_69 : ∀ i, i < 6 → shT[116 + 3 * i]? = some (13, 8) ∧ shT[116 + 3 * i + 1]? = some (1, 6) ∧ shT[116 + 3 * i + 2]? = some (1, 5) ∧ ptT[114 + 3 * i]? = some (116 + 3 * i, 5, 116 + 3 * i + 1) ∧ ptT[114 + 3 * i + 1]? = some (116 + 3 * i, 7, 116 + 3 * i + 2) ∧ ptT[114 + 3 * i + 2]? = some (75, i, 116 + 3 * i) ∧ RVp (114 + 3 * i) 69 10 = 75 := by decide +kernel
theorem i_X8_69 (b0 : B 70 68 f h) : OK (m_X8_init 69 h) (fun _ h1 => B 134 132 f h1) := by
  generalize hK : (fun (_ : Unit) (h1 : aH) => B 134 132 f h1) = K
  simp (maxSteps := 3000000) (disch := first | assumption | omega) only [m_X8_init, bO_v, bR_v, bX_l, bX_r, bC_l, bC_r, aJ_v, aLet_v, nI_add, pk_mul, dvI_n, rmI_n, iMax_n, iMin_n, zO_0, zO_1, li_0, li_1, li_2, li_3, li_4, li_5, li_6, li_7, li_8, li_9, li_10, li_12, li_14, li_15, li_16, li_18, li_19, li_20, li_22, li_23, li_24, li_26, li_29, li_30, li_31, li_32, li_36, li_38, li_48, li_50, li_57, li_58, li_59, li_60, li_63, li_97, li_99, li_120, li_122, li_144, li_168, li_194, li_240, li_255, li_284, li_299, li_603, li_999, li_1200, li_1440, li_4095, li_4096, li_6030, li_16384, li_20160, zl0, zl1, zl2, zl3, zl4, ze01, ze02, ze03, ze04, ze10, ze12, ze13, ze14, ze20, ze21, ze23, ze24, ze30, ze31, ze32, ze34, ze40, ze41, ze42, ze43, zt0, zt1, zt2, zt3, zt4, zq0, zq1, zq2, zq3, zq4, it_t, it_f, Bool.true_eq_false, Bool.false_eq_true, na5, na4, na1441, na2, na10, sx_IOIA, sx_IOIS, sx_IONS, sx_IAIO, sx_IAIS, sx_IANS, sx_ISIO, sx_ISIA, sx_ISNS, sx_NSIO, sx_NSIA, sx_NSIS]
  refine s_new b0 (by decide +kernel) (m := 71) rfl (fun o => OK o K) (fun h1 b1 => ?_)
  refine s_bR (ok_ret (P := fun _ h1 => B 71 68 f h1) b1) (fun o => OK o K) (fun _ h2 b2 => ?_)
  refine s_pr b2 (s := 18) (l := 12) (by decide +kernel) rfl (by decide) (by decide +kernel) (by decide) (q := 69) rfl (fun o => OK o K) (fun h3 b3 => ?_)
  refine s_new b3 (by decide +kernel) (m := 72) rfl (fun o => OK o K) (fun h4 b4 => ?_)
  refine s_pr b4 (s := 18) (l := 12) (by decide +kernel) rfl (by decide) (by decide +kernel) (by decide) (q := 70) rfl (fun o => OK o K) (fun h5 b5 => ?_)
  refine s_new b5 (by decide +kernel) (m := 73) rfl (fun o => OK o K) (fun h6 b6 => ?_)
  refine s_pr b6 (s := 18) (l := 12) (by decide +kernel) rfl (by decide) (by decide +kernel) (by decide) (q := 71) rfl (fun o => OK o K) (fun h7 b7 => ?_)
  refine s_new b7 (by decide +kernel) (m := 74) rfl (fun o => OK o K) (fun h8 b8 => ?_)
  refine s_pr b8 (s := 18) (l := 12) (by decide +kernel) rfl (by decide) (by decide +kernel) (by decide) (q := 72) rfl (fun o => OK o K) (fun h9 b9 => ?_)
  refine s_new b9 (by decide +kernel) (m := 75) rfl (fun o => OK o K) (fun h10 b10 => ?_)
  refine s_pr b10 (s := 18) (l := 12) (by decide +kernel) rfl (by decide) (by decide +kernel) (by decide) (q := 73) rfl (fun o => OK o K) (fun h11 b11 => ?_)
  refine s_new b11 (by decide +kernel) (m := 76) rfl (fun o => OK o K) (fun h12 b12 => ?_)
  refine s_pr b12 (s := 18) (l := 12) (by decide +kernel) rfl (by decide) (by decide +kernel) (by decide) (q := 74) rfl (fun o => OK o K) (fun h13 b13 => ?_)
  refine s_new b13 (by decide +kernel) (m := 77) rfl (fun o => OK o K) (fun h14 b14 => ?_)
  refine s_pr b14 (s := 18) (l := 12) (by decide +kernel) rfl (by decide) (by decide +kernel) (by decide) (q := 75) rfl (fun o => OK o K) (fun h15 b15 => ?_)
  refine aL1_run (R := fun o => OK o K) (fun m s1 g => ∃ i, i ≤ 12 ∧ m = 12 - i ∧ s1 = nI i ∧ B (77 + 1 * i) (75 + 1 * i) f g) ⟨0, Nat.zero_le _, rfl, rfl, b15⟩ (by omega) ?_
  clear b15
  rintro rec m s1 g ⟨i, hi, rfl, rfl, c0⟩ ih
  by_cases hlt : i < 12
  · obtain ⟨e1, e2, e3⟩ := f69_69 i hlt
    simp (maxSteps := 3000000) (disch := first | assumption | omega) only [m_X8_init_L69, bO_v, bR_v, bX_l, bX_r, bC_l, bC_r, aJ_v, aLet_v, nI_add, pk_mul, dvI_n, rmI_n, iMax_n, iMin_n, zO_0, zO_1, li_0, li_1, li_2, li_3, li_4, li_5, li_6, li_7, li_8, li_9, li_10, li_12, li_14, li_15, li_16, li_18, li_19, li_20, li_22, li_23, li_24, li_26, li_29, li_30, li_31, li_32, li_36, li_38, li_48, li_50, li_57, li_58, li_59, li_60, li_63, li_97, li_99, li_120, li_122, li_144, li_168, li_194, li_240, li_255, li_284, li_299, li_603, li_999, li_1200, li_1440, li_4095, li_4096, li_6030, li_16384, li_20160, zl0, zl1, zl2, zl3, zl4, ze01, ze02, ze03, ze04, ze10, ze12, ze13, ze14, ze20, ze21, ze23, ze24, ze30, ze31, ze32, ze34, ze40, ze41, ze42, ze43, zt0, zt1, zt2, zt3, zt4, zq0, zq1, zq2, zq3, zq4, it_t, it_f, Bool.true_eq_false, Bool.false_eq_true, na5, na4, na1441, na2, na10, sx_IOIA, sx_IOIS, sx_IONS, sx_IAIO, sx_IAIS, sx_IANS, sx_ISIO, sx_ISIA, sx_ISNS, sx_NSIO, sx_NSIA, sx_NSIS, nI_ltI, if_pos hlt]
    refine s_gr c0 (s := 18) (l := 12) (by decide +kernel) rfl (by omega) e3 (by decide) (fun o => OK o K) ?_
    refine s_new c0 e1 (m := 77 + 1 * i + 1) rfl (fun o => OK o K) (fun g1 c1 => ?_)
    refine s_bR (ok_ret (P := fun _ h1 => B (77 + 1 * i + 1) (75 + 1 * i) f h1) c1) (fun o => OK o K) (fun _ g2 c2 => ?_)
    refine s_asr c2 (l := 12) (by decide +kernel) (by omega) hlt (by decide) e1 rfl (by omega) e2 (q := 75 + 1 * i + 1) rfl (fun o => OK o K) (fun g9 c9 => ?_)
    refine ih _ _ _ (by omega) ⟨i + 1, hlt, rfl, rfl, ?_⟩
    rw [show 77 + 1 * (i + 1) = 77 + 1 * i + 1 by omega, show 75 + 1 * (i + 1) = 75 + 1 * i + 1 by omega]
    exact c9
  obtain rfl : i = 12 := by omega
  simp (maxSteps := 3000000) (disch := first | assumption | omega) only [m_X8_init_L69, bO_v, bR_v, bX_l, bX_r, bC_l, bC_r, aJ_v, aLet_v, nI_add, pk_mul, dvI_n, rmI_n, iMax_n, iMin_n, zO_0, zO_1, li_0, li_1, li_2, li_3, li_4, li_5, li_6, li_7, li_8, li_9, li_10, li_12, li_14, li_15, li_16, li_18, li_19, li_20, li_22, li_23, li_24, li_26, li_29, li_30, li_31, li_32, li_36, li_38, li_48, li_50, li_57, li_58, li_59, li_60, li_63, li_97, li_99, li_120, li_122, li_144, li_168, li_194, li_240, li_255, li_284, li_299, li_603, li_999, li_1200, li_1440, li_4095, li_4096, li_6030, li_16384, li_20160, zl0, zl1, zl2, zl3, zl4, ze01, ze02, ze03, ze04, ze10, ze12, ze13, ze14, ze20, ze21, ze23, ze24, ze30, ze31, ze32, ze34, ze40, ze41, ze42, ze43, zt0, zt1, zt2, zt3, zt4, zq0, zq1, zq2, zq3, zq4, it_t, it_f, Bool.true_eq_false, Bool.false_eq_true, na5, na4, na1441, na2, na10, sx_IOIA, sx_IOIS, sx_IONS, sx_IAIO, sx_IAIS, sx_IANS, sx_ISIO, sx_ISIA, sx_ISNS, sx_NSIO, sx_NSIA, sx_NSIS, nI_ltI, if_neg hlt]
  clear ih hlt hi
  refine aL1_run (R := fun o => OK o K) (fun m s1 g => ∃ i, i ≤ 6 ∧ m = 6 - i ∧ s1 = nI i ∧ B (89 + 2 * i) (87 + 2 * i) f g) ⟨0, Nat.zero_le _, rfl, rfl, c0⟩ (by omega) ?_
  clear c0
  rintro rec m s1 g ⟨i, hi, rfl, rfl, c0⟩ ih
  by_cases hlt : i < 6
  · obtain ⟨e1, e2, e3, e4, e5⟩ := f96_69 i hlt
    simp (maxSteps := 3000000) (disch := first | assumption | omega) only [m_X8_init_L96, bO_v, bR_v, bX_l, bX_r, bC_l, bC_r, aJ_v, aLet_v, nI_add, pk_mul, dvI_n, rmI_n, iMax_n, iMin_n, zO_0, zO_1, li_0, li_1, li_2, li_3, li_4, li_5, li_6, li_7, li_8, li_9, li_10, li_12, li_14, li_15, li_16, li_18, li_19, li_20, li_22, li_23, li_24, li_26, li_29, li_30, li_31, li_32, li_36, li_38, li_48, li_50, li_57, li_58, li_59, li_60, li_63, li_97, li_99, li_120, li_122, li_144, li_168, li_194, li_240, li_255, li_284, li_299, li_603, li_999, li_1200, li_1440, li_4095, li_4096, li_6030, li_16384, li_20160, zl0, zl1, zl2, zl3, zl4, ze01, ze02, ze03, ze04, ze10, ze12, ze13, ze14, ze20, ze21, ze23, ze24, ze30, ze31, ze32, ze34, ze40, ze41, ze42, ze43, zt0, zt1, zt2, zt3, zt4, zq0, zq1, zq2, zq3, zq4, it_t, it_f, Bool.true_eq_false, Bool.false_eq_true, na5, na4, na1441, na2, na10, sx_IOIA, sx_IOIS, sx_IONS, sx_IAIO, sx_IAIS, sx_IANS, sx_ISIO, sx_ISIA, sx_ISNS, sx_NSIO, sx_NSIA, sx_NSIS, nI_ltI, if_pos hlt]
    refine s_gr c0 (s := 18) (l := 12) (by decide +kernel) rfl (by omega) e5 (by decide) (fun o => OK o K) ?_
    refine s_new c0 e1 (m := 89 + 2 * i + 1) rfl (fun o => OK o K) (fun g1 c1 => ?_)
    have x6 : OK (m_X6_init (89 + 2 * i) g1) (fun _ h1 => B (89 + 2 * i + 2) (87 + 2 * i + 1) f h1) := by
      unfold m_X6_init
      refine s_new c1 e2 (m := 89 + 2 * i + 2) rfl (fun o => OK o (fun _ h1 => B (89 + 2 * i + 2) (87 + 2 * i + 1) f h1)) (fun g2 c2 => ?_)
      refine s_pr c2 e1 rfl (by omega) e3 (by omega) (q := 87 + 2 * i + 1) rfl (fun o => OK o (fun _ h1 => B (89 + 2 * i + 2) (87 + 2 * i + 1) f h1)) (fun g3 c3 => ?_)
      exact ok_ret c3
    refine s_bR x6 (fun o => OK o K) (fun _ g2 c2 => ?_)
    refine s_asr c2 (l := 6) (by decide +kernel) (by omega) hlt (by decide) e1 rfl (by omega) e4 (q := 87 + 2 * i + 2) rfl (fun o => OK o K) (fun g9 c9 => ?_)
    refine ih _ _ _ (by omega) ⟨i + 1, hlt, rfl, rfl, ?_⟩
    rw [show 89 + 2 * (i + 1) = 89 + 2 * i + 2 by omega, show 87 + 2 * (i + 1) = 87 + 2 * i + 2 by omega]
    exact c9
  obtain rfl : i = 6 := by omega
  simp (maxSteps := 3000000) (disch := first | assumption | omega) only [m_X8_init_L96, bO_v, bR_v, bX_l, bX_r, bC_l, bC_r, aJ_v, aLet_v, nI_add, pk_mul, dvI_n, rmI_n, iMax_n, iMin_n, zO_0, zO_1, li_0, li_1, li_2, li_3, li_4, li_5, li_6, li_7, li_8, li_9, li_10, li_12, li_14, li_15, li_16, li_18, li_19, li_20, li_22, li_23, li_24, li_26, li_29, li_30, li_31, li_32, li_36, li_38, li_48, li_50, li_57, li_58, li_59, li_60, li_63, li_97, li_99, li_120, li_122, li_144, li_168, li_194, li_240, li_255, li_284, li_299, li_603, li_999, li_1200, li_1440, li_4095, li_4096, li_6030, li_16384, li_20160, zl0, zl1, zl2, zl3, zl4, ze01, ze02, ze03, ze04, ze10, ze12, ze13, ze14, ze20, ze21, ze23, ze24, ze30, ze31, ze32, ze34, ze40, ze41, ze42, ze43, zt0, zt1, zt2, zt3, zt4, zq0, zq1, zq2, zq3, zq4, it_t, it_f, Bool.true_eq_false, Bool.false_eq_true, na5, na4, na1441, na2, na10, sx_IOIA, sx_IOIS, sx_IONS, sx_IAIO, sx_IAIS, sx_IANS, sx_ISIO, sx_ISIA, sx_ISNS, sx_NSIO, sx_NSIA, sx_NSIS, nI_ltI, if_neg hlt]
  clear ih hlt hi
  refine aL1_run (R := fun o => OK o K) (fun m s1 g => ∃ i, i ≤ 5 ∧ m = 5 - i ∧ s1 = nI i ∧ B (101 + 3 * i) (99 + 3 * i) f g) ⟨0, Nat.zero_le _, rfl, rfl, c0⟩ (by omega) ?_
  clear c0
  rintro rec m s1 g ⟨i, hi, rfl, rfl, c0⟩ ih
  by_cases hlt : i < 5
  · obtain ⟨e1, e2, e3, e4, e5, e6, e7⟩ := f123_69 i hlt
    simp (maxSteps := 3000000) (disch := first | assumption | omega) only [m_X8_init_L123, bO_v, bR_v, bX_l, bX_r, bC_l, bC_r, aJ_v, aLet_v, nI_add, pk_mul, dvI_n, rmI_n, iMax_n, iMin_n, zO_0, zO_1, li_0, li_1, li_2, li_3, li_4, li_5, li_6, li_7, li_8, li_9, li_10, li_12, li_14, li_15, li_16, li_18, li_19, li_20, li_22, li_23, li_24, li_26, li_29, li_30, li_31, li_32, li_36, li_38, li_48, li_50, li_57, li_58, li_59, li_60, li_63, li_97, li_99, li_120, li_122, li_144, li_168, li_194, li_240, li_255, li_284, li_299, li_603, li_999, li_1200, li_1440, li_4095, li_4096, li_6030, li_16384, li_20160, zl0, zl1, zl2, zl3, zl4, ze01, ze02, ze03, ze04, ze10, ze12, ze13, ze14, ze20, ze21, ze23, ze24, ze30, ze31, ze32, ze34, ze40, ze41, ze42, ze43, zt0, zt1, zt2, zt3, zt4, zq0, zq1, zq2, zq3, zq4, it_t, it_f, Bool.true_eq_false, Bool.false_eq_true, na5, na4, na1441, na2, na10, sx_IOIA, sx_IOIS, sx_IONS, sx_IAIO, sx_IAIS, sx_IANS, sx_ISIO, sx_ISIA, sx_ISNS, sx_NSIO, sx_NSIA, sx_NSIS, nI_ltI, if_pos hlt]
    refine s_gr c0 (s := 18) (l := 12) (by decide +kernel) rfl (by omega) e7 (by decide) (fun o => OK o K) ?_
    refine s_new c0 e1 (m := 101 + 3 * i + 1) rfl (fun o => OK o K) (fun g1 c1 => ?_)
    have x6 : OK (m_X1_init (101 + 3 * i) g1) (fun _ h1 => B (101 + 3 * i + 3) (99 + 3 * i + 2) f h1) := by
      unfold m_X1_init
      refine s_new c1 e2 (m := 101 + 3 * i + 2) rfl (fun o => OK o (fun _ h1 => B (101 + 3 * i + 3) (99 + 3 * i + 2) f h1)) (fun g2 c2 => ?_)
      refine s_pr c2 e1 rfl (by omega) e4 (by omega) (q := 99 + 3 * i + 1) rfl (fun o => OK o (fun _ h1 => B (101 + 3 * i + 3) (99 + 3 * i + 2) f h1)) (fun g3 c3 => ?_)
      refine s_new c3 e3 (m := 101 + 3 * i + 3) rfl (fun o => OK o (fun _ h1 => B (101 + 3 * i + 3) (99 + 3 * i + 2) f h1)) (fun g4 c4 => ?_)
      refine s_pr c4 e1 rfl (by omega) e5 (by omega) (q := 99 + 3 * i + 2) rfl (fun o => OK o (fun _ h1 => B (101 + 3 * i + 3) (99 + 3 * i + 2) f h1)) (fun g5 c5 => ?_)
      exact ok_ret c5
    refine s_bR x6 (fun o => OK o K) (fun _ g2 c2 => ?_)
    refine s_asr c2 (l := 5) (by decide +kernel) (by omega) hlt (by decide) e1 rfl (by omega) e6 (q := 99 + 3 * i + 3) rfl (fun o => OK o K) (fun g9 c9 => ?_)
    refine ih _ _ _ (by omega) ⟨i + 1, hlt, rfl, rfl, ?_⟩
    rw [show 101 + 3 * (i + 1) = 101 + 3 * i + 3 by omega, show 99 + 3 * (i + 1) = 99 + 3 * i + 3 by omega]
    exact c9
  obtain rfl : i = 5 := by omega
  simp (maxSteps := 3000000) (disch := first | assumption | omega) only [m_X8_init_L123, bO_v, bR_v, bX_l, bX_r, bC_l, bC_r, aJ_v, aLet_v, nI_add, pk_mul, dvI_n, rmI_n, iMax_n, iMin_n, zO_0, zO_1, li_0, li_1, li_2, li_3, li_4, li_5, li_6, li_7, li_8, li_9, li_10, li_12, li_14, li_15, li_16, li_18, li_19, li_20, li_22, li_23, li_24, li_26, li_29, li_30, li_31, li_32, li_36, li_38, li_48, li_50, li_57, li_58, li_59, li_60, li_63, li_97, li_99, li_120, li_122, li_144, li_168, li_194, li_240, li_255, li_284, li_299, li_603, li_999, li_1200, li_1440, li_4095, li_4096, li_6030, li_16384, li_20160, zl0, zl1, zl2, zl3, zl4, ze01, ze02, ze03, ze04, ze10, ze12, ze13, ze14, ze20, ze21, ze23, ze24, ze30, ze31, ze32, ze34, ze40, ze41, ze42, ze43, zt0, zt1, zt2, zt3, zt4, zq0, zq1, zq2, zq3, zq4, it_t, it_f, Bool.true_eq_false, Bool.false_eq_true, na5, na4, na1441, na2, na10, sx_IOIA, sx_IOIS, sx_IONS, sx_IAIO, sx_IAIS, sx_IANS, sx_ISIO, sx_ISIA, sx_ISNS, sx_NSIO, sx_NSIA, sx_NSIS, nI_ltI, if_neg hlt]
  clear ih hlt hi
  refine aL1_run (R := fun o => OK o K) (fun m s1 g => ∃ i, i ≤ 6 ∧ m = 6 - i ∧ s1 = nI i ∧ B (116 + 3 * i) (114 + 3 * i) f g) ⟨0, Nat.zero_le _, rfl, rfl, c0⟩ (by omega) ?_
  clear c0
  rintro rec m s1 g ⟨i, hi, rfl, rfl, c0⟩ ih
  by_cases hlt : i < 6
  · obtain ⟨e1, e2, e3, e4, e5, e6, e7⟩ := f149_69 i hlt
    simp (maxSteps := 3000000) (disch := first | assumption | omega) only [m_X8_init_L149, bO_v, bR_v, bX_l, bX_r, bC_l, bC_r, aJ_v, aLet_v, nI_add, pk_mul, dvI_n, rmI_n, iMax_n, iMin_n, zO_0, zO_1, li_0, li_1, li_2, li_3, li_4, li_5, li_6, li_7, li_8, li_9, li_10, li_12, li_14, li_15, li_16, li_18, li_19, li_20, li_22, li_23, li_24, li_26, li_29, li_30, li_31, li_32, li_36, li_38, li_48, li_50, li_57, li_58, li_59, li_60, li_63, li_97, li_99, li_120, li_122, li_144, li_168, li_194, li_240, li_255, li_284, li_299, li_603, li_999, li_1200, li_1440, li_4095, li_4096, li_6030, li_16384, li_20160, zl0, zl1, zl2, zl3, zl4, ze01, ze02, ze03, ze04, ze10, ze12, ze13, ze14, ze20, ze21, ze23, ze24, ze30, ze31, ze32, ze34, ze40, ze41, ze42, ze43, zt0, zt1, zt2, zt3, zt4, zq0, zq1, zq2, zq3, zq4, it_t, it_f, Bool.true_eq_false, Bool.false_eq_true, na5, na4, na1441, na2, na10, sx_IOIA, sx_IOIS, sx_IONS, sx_IAIO, sx_IAIS, sx_IANS, sx_ISIO, sx_ISIA, sx_ISNS, sx_NSIO, sx_NSIA, sx_NSIS, nI_ltI, if_pos hlt]
    refine s_gr c0 (s := 18) (l := 12) (by decide +kernel) rfl (by omega) e7 (by decide) (fun o => OK o K) ?_
    refine s_new c0 e1 (m := 116 + 3 * i + 1) rfl (fun o => OK o K) (fun g1 c1 => ?_)
    have x6 : OK (m_X3_init (116 + 3 * i) g1) (fun _ h1 => B (116 + 3 * i + 3) (114 + 3 * i + 2) f h1) := by
      unfold m_X3_init
      refine s_new c1 e2 (m := 116 + 3 * i + 2) rfl (fun o => OK o (fun _ h1 => B (116 + 3 * i + 3) (114 + 3 * i + 2) f h1)) (fun g2 c2 => ?_)
      refine s_pr c2 e1 rfl (by omega) e4 (by omega) (q := 114 + 3 * i + 1) rfl (fun o => OK o (fun _ h1 => B (116 + 3 * i + 3) (114 + 3 * i + 2) f h1)) (fun g3 c3 => ?_)
      refine s_new c3 e3 (m := 116 + 3 * i + 3) rfl (fun o => OK o (fun _ h1 => B (116 + 3 * i + 3) (114 + 3 * i + 2) f h1)) (fun g4 c4 => ?_)
      refine s_pr c4 e1 rfl (by omega) e5 (by omega) (q := 114 + 3 * i + 2) rfl (fun o => OK o (fun _ h1 => B (116 + 3 * i + 3) (114 + 3 * i + 2) f h1)) (fun g5 c5 => ?_)
      exact ok_ret c5
    refine s_bR x6 (fun o => OK o K) (fun _ g2 c2 => ?_)
    refine s_asr c2 (l := 6) (by decide +kernel) (by omega) hlt (by decide) e1 rfl (by omega) e6 (q := 114 + 3 * i + 3) rfl (fun o => OK o K) (fun g9 c9 => ?_)
    refine ih _ _ _ (by omega) ⟨i + 1, hlt, rfl, rfl, ?_⟩
    rw [show 116 + 3 * (i + 1) = 116 + 3 * i + 3 by omega, show 114 + 3 * (i + 1) = 114 + 3 * i + 3 by omega]
    exact c9
  obtain rfl : i = 6 := by omega
  simp (maxSteps := 3000000) (disch := first | assumption | omega) only [m_X8_init_L149, bO_v, bR_v, bX_l, bX_r, bC_l, bC_r, aJ_v, aLet_v, nI_add, pk_mul, dvI_n, rmI_n, iMax_n, iMin_n, zO_0, zO_1, li_0, li_1, li_2, li_3, li_4, li_5, li_6, li_7, li_8, li_9, li_10, li_12, li_14, li_15, li_16, li_18, li_19, li_20, li_22, li_23, li_24, li_26, li_29, li_30, li_31, li_32, li_36, li_38, li_48, li_50, li_57, li_58, li_59, li_60, li_63, li_97, li_99, li_120, li_122, li_144, li_168, li_194, li_240, li_255, li_284, li_299, li_603, li_999, li_1200, li_1440, li_4095, li_4096, li_6030, li_16384, li_20160, zl0, zl1, zl2, zl3, zl4, ze01, ze02, ze03, ze04, ze10, ze12, ze13, ze14, ze20, ze21, ze23, ze24, ze30, ze31, ze32, ze34, ze40, ze41, ze42, ze43, zt0, zt1, zt2, zt3, zt4, zq0, zq1, zq2, zq3, zq4, it_t, it_f, Bool.true_eq_false, Bool.false_eq_true, na5, na4, na1441, na2, na10, sx_IOIA, sx_IOIS, sx_IONS, sx_IAIO, sx_IAIS, sx_IANS, sx_ISIO, sx_ISIA, sx_ISNS, sx_NSIO, sx_NSIA, sx_NSIS, nI_ltI, if_neg hlt]
  clear ih hlt hi
  rw [← hK]
  exact ok_ret c0
theorem i_X4 (b0 : B 173 173 f h) : OK (m_X4_init 172 134 h) (fun _ h1 => B 180 182 f h1) := by
  unfold m_X4_init
  generalize hK : (fun (_ : Unit) (h1 : aH) => B 180 182 f h1) = K
  refine s_new b0 (by decide +kernel) (m := 174) rfl (fun o => OK o K) (fun h1 b1 => ?_)
  refine s_pr b1 (s := 14) (l := 11) (by decide +kernel) rfl (by decide) (by decide +kernel) (by decide) (q := 174) rfl (fun o => OK o K) (fun h2 b2 => ?_)
  refine s_new b2 (by decide +kernel) (m := 175) rfl (fun o => OK o K) (fun h3 b3 => ?_)
  refine s_pr b3 (s := 14) (l := 11) (by decide +kernel) rfl (by decide) (by decide +kernel) (by decide) (q := 175) rfl (fun o => OK o K) (fun h4 b4 => ?_)
  refine s_new b4 (by decide +kernel) (m := 176) rfl (fun o => OK o K) (fun h5 b5 => ?_)
  refine s_pr b5 (s := 14) (l := 11) (by decide +kernel) rfl (by decide) (by decide +kernel) (by decide) (q := 176) rfl (fun o => OK o K) (fun h6 b6 => ?_)
  refine s_new b6 (by decide +kernel) (m := 177) rfl (fun o => OK o K) (fun h7 b7 => ?_)
  refine s_pr b7 (s := 14) (l := 11) (by decide +kernel) rfl (by decide) (by decide +kernel) (by decide) (q := 177) rfl (fun o => OK o K) (fun h8 b8 => ?_)
  refine s_new b8 (by decide +kernel) (m := 178) rfl (fun o => OK o K) (fun h9 b9 => ?_)
  refine s_pr b9 (s := 14) (l := 11) (by decide +kernel) rfl (by decide) (by decide +kernel) (by decide) (q := 178) rfl (fun o => OK o K) (fun h10 b10 => ?_)
  refine s_new b10 (by decide +kernel) (m := 179) rfl (fun o => OK o K) (fun h11 b11 => ?_)
  refine s_pr b11 (s := 14) (l := 11) (by decide +kernel) rfl (by decide) (by decide +kernel) (by decide) (q := 179) rfl (fun o => OK o K) (fun h12 b12 => ?_)
  refine s_new b12 (by decide +kernel) (m := 180) rfl (fun o => OK o K) (fun h13 b13 => ?_)
  refine s_pr b13 (s := 14) (l := 11) (by decide +kernel) rfl (by decide) (by decide +kernel) (by decide) (q := 180) rfl (fun o => OK o K) (fun h14 b14 => ?_)
  refine s_pr b14 (s := 14) (l := 11) (by decide +kernel) rfl (by decide) (by decide +kernel) (by decide) (q := 181) rfl (fun o => OK o K) (fun h15 b15 => ?_)
  refine s_gr b15 (s := 20) (l := 16) (by decide +kernel) rfl (by decide) (x := 4) (by decide +kernel) (by decide) (fun o => OK o K) ?_
  refine s_pr b15 (s := 14) (l := 11) (by decide +kernel) rfl (by decide) (by decide +kernel) (by decide) (q := 182) rfl (fun o => OK o K) (fun h16 b16 => ?_)
  rw [← hK]
  exact ok_ret b16
theorem i_X2 (b0 : B 181 183 f h) : OK (m_X2_init 180 4 h) (fun _ h1 => B 412 426 f h1) := by
  generalize hK : (fun (_ : Unit) (h1 : aH) => B 412 426 f h1) = K
  simp (maxSteps := 3000000) (disch := first | assumption | omega) only [m_X2_init, bO_v, bR_v, bX_l, bX_r, bC_l, bC_r, aJ_v, aLet_v, nI_add, pk_mul, dvI_n, rmI_n, iMax_n, iMin_n, zO_0, zO_1, li_0, li_1, li_2, li_3, li_4, li_5, li_6, li_7, li_8, li_9, li_10, li_12, li_14, li_15, li_16, li_18, li_19, li_20, li_22, li_23, li_24, li_26, li_29, li_30, li_31, li_32, li_36, li_38, li_48, li_50, li_57, li_58, li_59, li_60, li_63, li_97, li_99, li_120, li_122, li_144, li_168, li_194, li_240, li_255, li_284, li_299, li_603, li_999, li_1200, li_1440, li_4095, li_4096, li_6030, li_16384, li_20160, zl0, zl1, zl2, zl3, zl4, ze01, ze02, ze03, ze04, ze10, ze12, ze13, ze14, ze20, ze21, ze23, ze24, ze30, ze31, ze32, ze34, ze40, ze41, ze42, ze43, zt0, zt1, zt2, zt3, zt4, zq0, zq1, zq2, zq3, zq4, it_t, it_f, Bool.true_eq_false, Bool.false_eq_true, na5, na4, na1441, na2, na10, sx_IOIA, sx_IOIS, sx_IONS, sx_IAIO, sx_IAIS, sx_IANS, sx_ISIO, sx_ISIA, sx_ISNS, sx_NSIO, sx_NSIA, sx_NSIS]
  refine s_new b0 (by decide +kernel) (m := 182) rfl (fun o => OK o K) (fun h1 b1 => ?_)
  refine s_pr b1 (s := 12) (l := 4) (by decide +kernel) rfl (by decide) (by decide +kernel) (by decide) (q := 184) rfl (fun o => OK o K) (fun h2 b2 => ?_)
  refine s_new b2 (by decide +kernel) (m := 183) rfl (fun o => OK o K) (fun h3 b3 => ?_)
  refine s_pr b3 (s := 12) (l := 4) (by decide +kernel) rfl (by decide) (by decide +kernel) (by decide) (q := 185) rfl (fun o => OK o K) (fun h4 b4 => ?_)
  refine s_new b4 (by decide +kernel) (m := 184) rfl (fun o => OK o K) (fun h5 b5 => ?_)
  refine s_pr b5 (s := 12) (l := 4) (by decide +kernel) rfl (by decide) (by decide +kernel) (by decide) (q := 186) rfl (fun o => OK o K) (fun h6 b6 => ?_)
  refine aL1_run (R := fun o => OK o K) (fun m s1 g => ∃ i, i ≤ 10 ∧ m = 10 - i ∧ s1 = nI i ∧ B (184 + 19 * i) (186 + 20 * i) f g) ⟨0, Nat.zero_le _, rfl, rfl, b6⟩ (by omega) ?_
  clear b6
  rintro rec m s1 g ⟨i, hi, rfl, rfl, c0⟩ ih
  by_cases hlt : i < 10
  · obtain ⟨X, e2, e3⟩ := xs_k i hlt
    simp (maxSteps := 3000000) (disch := first | assumption | omega) only [m_X2_init_L30, bO_v, bR_v, bX_l, bX_r, bC_l, bC_r, aJ_v, aLet_v, nI_add, pk_mul, dvI_n, rmI_n, iMax_n, iMin_n, zO_0, zO_1, li_0, li_1, li_2, li_3, li_4, li_5, li_6, li_7, li_8, li_9, li_10, li_12, li_14, li_15, li_16, li_18, li_19, li_20, li_22, li_23, li_24, li_26, li_29, li_30, li_31, li_32, li_36, li_38, li_48, li_50, li_57, li_58, li_59, li_60, li_63, li_97, li_99, li_120, li_122, li_144, li_168, li_194, li_240, li_255, li_284, li_299, li_603, li_999, li_1200, li_1440, li_4095, li_4096, li_6030, li_16384, li_20160, zl0, zl1, zl2, zl3, zl4, ze01, ze02, ze03, ze04, ze10, ze12, ze13, ze14, ze20, ze21, ze23, ze24, ze30, ze31, ze32, ze34, ze40, ze41, ze42, ze43, zt0, zt1, zt2, zt3, zt4, zq0, zq1, zq2, zq3, zq4, it_t, it_f, Bool.true_eq_false, Bool.false_eq_true, na5, na4, na1441, na2, na10, sx_IOIA, sx_IOIS, sx_IONS, sx_IAIO, sx_IAIS, sx_IANS, sx_ISIO, sx_ISIA, sx_ISNS, sx_NSIO, sx_NSIA, sx_NSIS, nI_ltI, if_pos hlt]
    refine s_gr c0 (s := 12) (l := 4) (by decide +kernel) rfl (by omega) e3 (by decide) (fun o => OK o K) ?_
    refine s_new c0 X.1.1 (m := 184 + 19 * i + 1) rfl (fun o => OK o K) (fun g1 c1 => ?_)
    refine s_bR (i_X10 X c1) (fun o => OK o K) (fun _ g2 c2 => ?_)
    refine s_asr c2 (l := 10) (by decide +kernel) (by omega) hlt (by decide) X.1.1 rfl (by omega) e2 (q := 186 + 20 * i + 20) rfl (fun o => OK o K) (fun g9 c9 => ?_)
    refine ih _ _ _ (by omega) ⟨i + 1, hlt, rfl, rfl, ?_⟩
    rw [show 184 + 19 * (i + 1) = 184 + 19 * i + 19 by omega, show 186 + 20 * (i + 1) = 186 + 20 * i + 20 by omega]
    exact c9
  obtain rfl : i = 10 := by omega
  simp (maxSteps := 3000000) (disch := first | assumption | omega) only [m_X2_init_L30, bO_v, bR_v, bX_l, bX_r, bC_l, bC_r, aJ_v, aLet_v, nI_add, pk_mul, dvI_n, rmI_n, iMax_n, iMin_n, zO_0, zO_1, li_0, li_1, li_2, li_3, li_4, li_5, li_6, li_7, li_8, li_9, li_10, li_12, li_14, li_15, li_16, li_18, li_19, li_20, li_22, li_23, li_24, li_26, li_29, li_30, li_31, li_32, li_36, li_38, li_48, li_50, li_57, li_58, li_59, li_60, li_63, li_97, li_99, li_120, li_122, li_144, li_168, li_194, li_240, li_255, li_284, li_299, li_603, li_999, li_1200, li_1440, li_4095, li_4096, li_6030, li_16384, li_20160, zl0, zl1, zl2, zl3, zl4, ze01, ze02, ze03, ze04, ze10, ze12, ze13, ze14, ze20, ze21, ze23, ze24, ze30, ze31, ze32, ze34, ze40, ze41, ze42, ze43, zt0, zt1, zt2, zt3, zt4, zq0, zq1, zq2, zq3, zq4, it_t, it_f, Bool.true_eq_false, Bool.false_eq_true, na5, na4, na1441, na2, na10, sx_IOIA, sx_IOIS, sx_IONS, sx_IAIO, sx_IAIS, sx_IANS, sx_ISIO, sx_ISIA, sx_ISNS, sx_NSIO, sx_NSIA, sx_NSIS, nI_ltI, if_neg hlt]
  clear ih hlt hi
  refine aL1_run (R := fun o => OK o K) (fun m s1 g => ∃ i, i ≤ 2 ∧ m = 2 - i ∧ s1 = nI i ∧ B (374 + 19 * i) (386 + 20 * i) f g) ⟨0, Nat.zero_le _, rfl, rfl, c0⟩ (by omega) ?_
  clear c0
  rintro rec m s1 g ⟨i, hi, rfl, rfl, c0⟩ ih
  by_cases hlt : i < 2
  · obtain ⟨X, e2, e3⟩ := xs_s i hlt
    simp (maxSteps := 3000000) (disch := first | assumption | omega) only [m_X2_init_L58, bO_v, bR_v, bX_l, bX_r, bC_l, bC_r, aJ_v, aLet_v, nI_add, pk_mul, dvI_n, rmI_n, iMax_n, iMin_n, zO_0, zO_1, li_0, li_1, li_2, li_3, li_4, li_5, li_6, li_7, li_8, li_9, li_10, li_12, li_14, li_15, li_16, li_18, li_19, li_20, li_22, li_23, li_24, li_26, li_29, li_30, li_31, li_32, li_36, li_38, li_48, li_50, li_57, li_58, li_59, li_60, li_63, li_97, li_99, li_120, li_122, li_144, li_168, li_194, li_240, li_255, li_284, li_299, li_603, li_999, li_1200, li_1440, li_4095, li_4096, li_6030, li_16384, li_20160, zl0, zl1, zl2, zl3, zl4, ze01, ze02, ze03, ze04, ze10, ze12, ze13, ze14, ze20, ze21, ze23, ze24, ze30, ze31, ze32, ze34, ze40, ze41, ze42, ze43, zt0, zt1, zt2, zt3, zt4, zq0, zq1, zq2, zq3, zq4, it_t, it_f, Bool.true_eq_false, Bool.false_eq_true, na5, na4, na1441, na2, na10, sx_IOIA, sx_IOIS, sx_IONS, sx_IAIO, sx_IAIS, sx_IANS, sx_ISIO, sx_ISIA, sx_ISNS, sx_NSIO, sx_NSIA, sx_NSIS, nI_ltI, if_pos hlt]
    refine s_gr c0 (s := 12) (l := 4) (by decide +kernel) rfl (by omega) e3 (by decide) (fun o => OK o K) ?_
    refine s_new c0 X.1.1 (m := 374 + 19 * i + 1) rfl (fun o => OK o K) (fun g1 c1 => ?_)
    refine s_bR (i_X10 X c1) (fun o => OK o K) (fun _ g2 c2 => ?_)
    refine s_asr c2 (l := 2) (by decide +kernel) (by omega) hlt (by decide) X.1.1 rfl (by omega) e2 (q := 386 + 20 * i + 20) rfl (fun o => OK o K) (fun g9 c9 => ?_)
    refine ih _ _ _ (by omega) ⟨i + 1, hlt, rfl, rfl, ?_⟩
    rw [show 374 + 19 * (i + 1) = 374 + 19 * i + 19 by omega, show 386 + 20 * (i + 1) = 386 + 20 * i + 20 by omega]
    exact c9
  obtain rfl : i = 2 := by omega
  simp (maxSteps := 3000000) (disch := first | assumption | omega) only [m_X2_init_L58, bO_v, bR_v, bX_l, bX_r, bC_l, bC_r, aJ_v, aLet_v, nI_add, pk_mul, dvI_n, rmI_n, iMax_n, iMin_n, zO_0, zO_1, li_0, li_1, li_2, li_3, li_4, li_5, li_6, li_7, li_8, li_9, li_10, li_12, li_14, li_15, li_16, li_18, li_19, li_20, li_22, li_23, li_24, li_26, li_29, li_30, li_31, li_32, li_36, li_38, li_48, li_50, li_57, li_58, li_59, li_60, li_63, li_97, li_99, li_120, li_122, li_144, li_168, li_194, li_240, li_255, li_284, li_299, li_603, li_999, li_1200, li_1440, li_4095, li_4096, li_6030, li_16384, li_20160, zl0, zl1, zl2, zl3, zl4, ze01, ze02, ze03, ze04, ze10, ze12, ze13, ze14, ze20, ze21, ze23, ze24, ze30, ze31, ze32, ze34, ze40, ze41, ze42, ze43, zt0, zt1, zt2, zt3, zt4, zq0, zq1, zq2, zq3, zq4, it_t, it_f, Bool.true_eq_false, Bool.false_eq_true, na5, na4, na1441, na2, na10, sx_IOIA, sx_IOIS, sx_IONS, sx_IAIO, sx_IAIS, sx_IANS, sx_ISIO, sx_ISIA, sx_ISNS, sx_NSIO, sx_NSIA, sx_NSIS, nI_ltI, if_neg hlt]
  clear ih hlt hi
  rw [← hK]
  exact ok_ret c0
def fC : Nat → Nat → Int32 := up2 (up2 (up2 (up2 (up2 (fun _ _ => (0 : Int32)) 3 10 (-nI 1)) 5 0 (nI 22)) 5 1 (nI 6)) 5 2 (nI 5)) 5 3 (nI 240)
theorem i_X11 (b0 : B 2 0 (fun _ _ => 0) h) : OK (m_X11_init 1 h) (fun _ h1 => B 412 427 fC h1) := by
  generalize hK : (fun (_ : Unit) (h1 : aH) => B 412 427 fC h1) = K
  simp (maxSteps := 3000000) (disch := first | assumption | omega) only [m_X11_init, bO_v, bR_v, bX_l, bX_r, bC_l, bC_r, aJ_v, aLet_v, nI_add, pk_mul, dvI_n, rmI_n, iMax_n, iMin_n, zO_0, zO_1, li_0, li_1, li_2, li_3, li_4, li_5, li_6, li_7, li_8, li_9, li_10, li_12, li_14, li_15, li_16, li_18, li_19, li_20, li_22, li_23, li_24, li_26, li_29, li_30, li_31, li_32, li_36, li_38, li_48, li_50, li_57, li_58, li_59, li_60, li_63, li_97, li_99, li_120, li_122, li_144, li_168, li_194, li_240, li_255, li_284, li_299, li_603, li_999, li_1200, li_1440, li_4095, li_4096, li_6030, li_16384, li_20160, zl0, zl1, zl2, zl3, zl4, ze01, ze02, ze03, ze04, ze10, ze12, ze13, ze14, ze20, ze21, ze23, ze24, ze30, ze31, ze32, ze34, ze40, ze41, ze42, ze43, zt0, zt1, zt2, zt3, zt4, zq0, zq1, zq2, zq3, zq4, it_t, it_f, Bool.true_eq_false, Bool.false_eq_true, na5, na4, na1441, na2, na10, sx_IOIA, sx_IOIS, sx_IONS, sx_IAIO, sx_IAIS, sx_IANS, sx_ISIO, sx_ISIA, sx_ISNS, sx_NSIO, sx_NSIA, sx_NSIS]
  refine s_new b0 (by decide +kernel) (m := 3) rfl (fun o => OK o K) (fun h1 b1 => ?_)
  refine s_pr b1 (s := 21) (l := 9) (by decide +kernel) rfl (by decide) (by decide +kernel) (by decide) (q := 1) rfl (fun o => OK o K) (fun h2 b2 => ?_)
  refine s_new b2 (by decide +kernel) (m := 4) rfl (fun o => OK o K) (fun h3 b3 => ?_)
  refine s_gr b3 (s := 21) (l := 9) (by decide +kernel) rfl (by decide) (x := 2) (by decide +kernel) (by decide) (fun o => OK o K) ?_
  have x9 : OK (m_X9_init 3 2 h3) (fun _ h1 => B 4 2 (up2 (fun _ _ => (0 : Int32)) 3 10 (-nI 1)) h1) := by
    simp (maxSteps := 3000000) (disch := first | assumption | omega) only [m_X9_init, bO_v, bR_v, bX_l, bX_r, bC_l, bC_r, aJ_v, aLet_v, nI_add, pk_mul, dvI_n, rmI_n, iMax_n, iMin_n, zO_0, zO_1, li_0, li_1, li_2, li_3, li_4, li_5, li_6, li_7, li_8, li_9, li_10, li_12, li_14, li_15, li_16, li_18, li_19, li_20, li_22, li_23, li_24, li_26, li_29, li_30, li_31, li_32, li_36, li_38, li_48, li_50, li_57, li_58, li_59, li_60, li_63, li_97, li_99, li_120, li_122, li_144, li_168, li_194, li_240, li_255, li_284, li_299, li_603, li_999, li_1200, li_1440, li_4095, li_4096, li_6030, li_16384, li_20160, zl0, zl1, zl2, zl3, zl4, ze01, ze02, ze03, ze04, ze10, ze12, ze13, ze14, ze20, ze21, ze23, ze24, ze30, ze31, ze32, ze34, ze40, ze41, ze42, ze43, zt0, zt1, zt2, zt3, zt4, zq0, zq1, zq2, zq3, zq4, it_t, it_f, Bool.true_eq_false, Bool.false_eq_true, na5, na4, na1441, na2, na10, sx_IOIA, sx_IOIS, sx_IONS, sx_IAIO, sx_IAIS, sx_IANS, sx_ISIO, sx_ISIA, sx_ISNS, sx_NSIO, sx_NSIA, sx_NSIS]
    refine s_pi b3 (s := 19) (l := 11) (by decide +kernel) rfl (by decide) (fun o => OK o (fun _ h1 => B 4 2 (up2 (fun _ _ => (0 : Int32)) 3 10 (-nI 1)) h1)) (fun g1 c1 => ?_)
    refine s_pr c1 (s := 19) (l := 11) (by decide +kernel) rfl (by decide) (by decide +kernel) (by decide) (q := 2) rfl (fun o => OK o (fun _ h1 => B 4 2 (up2 (fun _ _ => (0 : Int32)) 3 10 (-nI 1)) h1)) (fun g2 c2 => ?_)
    exact ok_ret c2
  refine s_bR x9 (fun o => OK o K) (fun _ h4 b4 => ?_)
  refine s_pr b4 (s := 21) (l := 9) (by decide +kernel) rfl (by decide) (by decide +kernel) (by decide) (q := 3) rfl (fun o => OK o K) (fun h5 b5 => ?_)
  refine s_new b5 (by decide +kernel) (m := 5) rfl (fun o => OK o K) (fun h6 b6 => ?_)
  refine s_bR (i_X8_4 b6) (fun o => OK o K) (fun _ h7 b7 => ?_)
  refine s_pr b7 (s := 21) (l := 9) (by decide +kernel) rfl (by decide) (by decide +kernel) (by decide) (q := 68) rfl (fun o => OK o K) (fun h8 b8 => ?_)
  refine s_new b8 (by decide +kernel) (m := 70) rfl (fun o => OK o K) (fun h9 b9 => ?_)
  refine s_bR (i_X8_69 b9) (fun o => OK o K) (fun _ h10 b10 => ?_)
  refine s_pr b10 (s := 21) (l := 9) (by decide +kernel) rfl (by decide) (by decide +kernel) (by decide) (q := 133) rfl (fun o => OK o K) (fun h11 b11 => ?_)
  refine s_new b11 (by decide +kernel) (m := 135) rfl (fun o => OK o K) (fun h12 b12 => ?_)
  refine s_gr b12 (s := 21) (l := 9) (by decide +kernel) rfl (by decide) (x := 4) (by decide +kernel) (by decide) (fun o => OK o K) ?_
  refine s_bR (i_X10 xs_134 b12) (fun o => OK o K) (fun _ h13 b13 => ?_)
  refine s_pr b13 (s := 21) (l := 9) (by decide +kernel) rfl (by decide) (by decide +kernel) (by decide) (q := 153) rfl (fun o => OK o K) (fun h14 b14 => ?_)
  refine s_new b14 (by decide +kernel) (m := 154) rfl (fun o => OK o K) (fun h15 b15 => ?_)
  refine s_gr b15 (s := 21) (l := 9) (by decide +kernel) rfl (by decide) (x := 4) (by decide +kernel) (by decide) (fun o => OK o K) ?_
  refine s_bR (i_X10 xs_153 b15) (fun o => OK o K) (fun _ h16 b16 => ?_)
  refine s_pr b16 (s := 21) (l := 9) (by decide +kernel) rfl (by decide) (by decide +kernel) (by decide) (q := 173) rfl (fun o => OK o K) (fun h17 b17 => ?_)
  refine s_new b17 (by decide +kernel) (m := 173) rfl (fun o => OK o K) (fun h18 b18 => ?_)
  refine s_gr b18 (s := 21) (l := 9) (by decide +kernel) rfl (by decide) (x := 134) (by decide +kernel) (by decide) (fun o => OK o K) ?_
  refine s_bR (i_X4 b18) (fun o => OK o K) (fun _ h19 b19 => ?_)
  refine s_pr b19 (s := 21) (l := 9) (by decide +kernel) rfl (by decide) (by decide +kernel) (by decide) (q := 183) rfl (fun o => OK o K) (fun h20 b20 => ?_)
  refine s_new b20 (by decide +kernel) (m := 181) rfl (fun o => OK o K) (fun h21 b21 => ?_)
  refine s_gr b21 (s := 21) (l := 9) (by decide +kernel) rfl (by decide) (x := 4) (by decide +kernel) (by decide) (fun o => OK o K) ?_
  refine s_bR (i_X2 b21) (fun o => OK o K) (fun _ h22 b22 => ?_)
  refine s_pr b22 (s := 21) (l := 9) (by decide +kernel) rfl (by decide) (by decide +kernel) (by decide) (q := 427) rfl (fun o => OK o K) (fun h23 b23 => ?_)
  refine s_gr b23 (s := 21) (l := 9) (by decide +kernel) rfl (by decide) (x := 4) (by decide +kernel) (by decide) (fun o => OK o K) ?_
  refine s_gr b23 (s := 18) (l := 12) (by decide +kernel) rfl (by decide) (x := 5) (by decide +kernel) (by decide) (fun o => OK o K) ?_
  have g5 : gS h23 5 5 = (fun (x : Option (Unit × aH)) => x) := by funext x; exact if_pos (b23.sh (s := 15) (l := 4) (by decide +kernel) (by decide)).1
  have x5 : OK (m_X5_set 5 (nI 22) (nI 6) (nI 5) (nI 240) h23) (fun _ h1 => B 412 427 fC h1) := by
    simp (maxSteps := 3000000) (disch := first | assumption | omega) only [m_X5_set, bO_v, bR_v, bX_l, bX_r, bC_l, bC_r, aJ_v, aLet_v, nI_add, pk_mul, dvI_n, rmI_n, iMax_n, iMin_n, zO_0, zO_1, li_0, li_1, li_2, li_3, li_4, li_5, li_6, li_7, li_8, li_9, li_10, li_12, li_14, li_15, li_16, li_18, li_19, li_20, li_22, li_23, li_24, li_26, li_29, li_30, li_31, li_32, li_36, li_38, li_48, li_50, li_57, li_58, li_59, li_60, li_63, li_97, li_99, li_120, li_122, li_144, li_168, li_194, li_240, li_255, li_284, li_299, li_603, li_999, li_1200, li_1440, li_4095, li_4096, li_6030, li_16384, li_20160, zl0, zl1, zl2, zl3, zl4, ze01, ze02, ze03, ze04, ze10, ze12, ze13, ze14, ze20, ze21, ze23, ze24, ze30, ze31, ze32, ze34, ze40, ze41, ze42, ze43, zt0, zt1, zt2, zt3, zt4, zq0, zq1, zq2, zq3, zq4, it_t, it_f, Bool.true_eq_false, Bool.false_eq_true, na5, na4, na1441, na2, na10, sx_IOIA, sx_IOIS, sx_IONS, sx_IAIO, sx_IAIS, sx_IANS, sx_ISIO, sx_ISIA, sx_ISNS, sx_NSIO, sx_NSIA, sx_NSIS]
    refine s_pi b23 (s := 15) (l := 4) (by decide +kernel) rfl (by decide) (fun o => OK o (fun _ h1 => B 412 427 fC h1)) (fun g1 c1 => ?_)
    refine s_pi c1 (s := 15) (l := 4) (by decide +kernel) rfl (by decide) (fun o => OK o (fun _ h1 => B 412 427 fC h1)) (fun g2 c2 => ?_)
    refine s_pi c2 (s := 15) (l := 4) (by decide +kernel) rfl (by decide) (fun o => OK o (fun _ h1 => B 412 427 fC h1)) (fun g3 c3 => ?_)
    refine s_pi c3 (s := 15) (l := 4) (by decide +kernel) rfl (by decide) (fun o => OK o (fun _ h1 => B 412 427 fC h1)) (fun g4 c4 => ?_)
    exact ok_ret c4
  rw [g5]
  refine s_bR x5 (fun o => OK o K) (fun _ g9 c9 => ?_)
  rw [← hK]
  exact ok_ret c9
end
