/-! a call: engines leave, others follow -/
section
variable {h : aH} {a P : Nat} {T : Nat → Nat → Nat} {S R : Nat → Nat}
theorem k_crewGo (hS : Sh h) (ha : a ∈ stL) (hP : P ∈ plL) (x : StR h a P T R) (y : PlR h P T) (hD : PlD T) (hR : RwD T R) (sp : h_rv h 172 0 = a) (pl : h_rv h 172 1 = P) {i u crew t : Nat} (hi : i < 5) (ec : h_iv h 177 i = nI crew) (hc : crew < 4096) (e0 : R 0 = t) (ht : t ≤ 20160) (hu : u ≤ t + 1389) (h1 : t ≤ u) (hp : ∀ p, p < T 412 8 → R (38 + p) ≤ 1000000) {k146 : Int32 → aH → Option (Int32 × aH)} {Z : Option (Int32 × aH) → Prop}
    (hk : ∀ h2, Fr (fun o => o = a + 2 ∨ o = a + 3) h h2 → StR h2 a P T (sdR T t (fun _ => u) (fun p => crew.testBit p) (T 412 8) R) → Z (k146 (nI (sdK T t (fun _ => u) (fun p => crew.testBit p) (T 412 8))) h2)) : Z (aL2 (m_X4_sendEngine_L98 172 (nI i) (nI u) k146) FU (nI 0) (nI 0) h) := by
  have d0 := hD.nP
  have a1 := st_in a ha
  have a2 := st_mu a ha
  have p1 := pl_in P hP
  refine aL2_run (fun m s1 s2 h2 => ∃ j, j ≤ T 412 8 ∧ m = T 412 8 - j ∧ s2 = nI j ∧ s1 = nI (sdK T t (fun _ => u) (fun p => crew.testBit p) j) ∧ Fr (fun o => o = a + 2 ∨ o = a + 3) h h2 ∧ StR h2 a P T (sdR T t (fun _ => u) (fun p => crew.testBit p) j R)) ⟨0, Nat.zero_le _, rfl, rfl, rfl, Fr.rf, by rw [sdR_0]; exact x⟩ (by omega) ?_
  rintro rec m s1 s2 h2 ⟨j, hj, rfl, rfl, rfl, F2, x2⟩ ih
  have S2 := F2.sh hS
  have y2 : PlR h2 P T := y.keep (fun o q1 q2 => F2.iv (by omega)) hD
  have mp := k_mplan S2 hP (show h_rv h2 172 1 = P by rw [F2.rv]; exact pl)
  have ms := k_mstate S2 ha (show h_rv h2 172 0 = a by rw [F2.rv]; exact sp)
  have c2 : h_iv h2 177 i = nI crew := by rw [F2.iv (by omega)]; exact ec
  by_cases hlt : j < T 412 8
  · have kh := k_has (h := h2) (x := crew) (j := j) (by omega) (by omega)
    simp (maxSteps := 3000000) (disch := first | assumption | omega) only [m_X4_sendEngine_L98, bO_v, bR_v, bX_l, bX_r, bC_l, bC_r, aLet_v, nI_add, pk_mul, dvI_n, rmI_n, iMax_n, iMin_n, zO_0, zO_1, li_0, li_1, li_2, li_3, li_4, li_5, li_6, li_7, li_8, li_9, li_10, li_12, li_14, li_15, li_16, li_18, li_19, li_20, li_22, li_23, li_24, li_26, li_29, li_30, li_31, li_32, li_36, li_38, li_48, li_50, li_57, li_58, li_59, li_60, li_63, li_97, li_99, li_120, li_122, li_144, li_168, li_194, li_240, li_255, li_284, li_299, li_603, li_999, li_1200, li_1440, li_4095, li_4096, li_6030, li_16384, li_20160, zl0, zl1, zl2, zl3, zl4, ze01, ze02, ze03, ze04, ze10, ze12, ze13, ze14, ze20, ze21, ze23, ze24, ze30, ze31, ze32, ze34, ze40, ze41, ze42, ze43, zt0, zt1, zt2, zt3, zt4, zq0, zq1, zq2, zq3, zq4, it_t, it_f, Bool.true_eq_false, Bool.false_eq_true, na5, na4, na1441, na2, na10, sx_IOIA, sx_IOIS, sx_IONS, sx_IAIO, sx_IAIS, sx_IANS, sx_ISIO, sx_ISIA, sx_ISNS, sx_NSIO, sx_NSIA, sx_NSIS, mp, p_cP_gi S2 hP, y2.nP, nI_ltI, c_pu4 S2, c_cu4_al S2, c2, kh, b2i_0]
    rw [if_pos hlt]
    refine aJ_gen (fun k140 hk140 => ?_)
    cases cb : crew.testBit j
    · rw [if_pos rfl, hk140]
      simp only [bO_v, bR_v, bX_l, bX_r, bC_l, bC_r, aLet_v, nI_add, pk_mul, dvI_n, rmI_n, iMax_n, iMin_n, zO_0, zO_1, li_0, li_1, li_2, li_3, li_4, li_5, li_6, li_7, li_8, li_9, li_10, li_12, li_14, li_15, li_16, li_18, li_19, li_20, li_22, li_23, li_24, li_26, li_29, li_30, li_31, li_32, li_36, li_38, li_48, li_50, li_57, li_58, li_59, li_60, li_63, li_97, li_99, li_120, li_122, li_144, li_168, li_194, li_240, li_255, li_284, li_299, li_603, li_999, li_1200, li_1440, li_4095, li_4096, li_6030, li_16384, li_20160, zl0, zl1, zl2, zl3, zl4, ze01, ze02, ze03, ze04, ze10, ze12, ze13, ze14, ze20, ze21, ze23, ze24, ze30, ze31, ze32, ze34, ze40, ze41, ze42, ze43, zt0, zt1, zt2, zt3, zt4, zq0, zq1, zq2, zq3, zq4, it_t, it_f, Bool.true_eq_false, Bool.false_eq_true, na5, na4, na1441, na2, na10, sx_IOIA, sx_IOIS, sx_IONS, sx_IAIO, sx_IAIS, sx_IANS, sx_ISIO, sx_ISIA, sx_ISNS, sx_NSIO, sx_NSIA, sx_NSIS]
      exact ih _ _ _ _ (by omega) ⟨j + 1, hlt, rfl, rfl, by rw [sdK, cb]; rfl, F2, by rw [sdR_no cb (by omega)]; exact x2⟩
    · rw [if_neg (by decide)]
      have R2 : RwD T (sdR T t (fun _ => u) (fun p => crew.testBit p) j R) := sdR_R hD hR hj ht (fun _ _ _ => hu) (fun p hp9 => by have := hp p hp9; omega)
      have e2 : sdR T t (fun _ => u) (fun p => crew.testBit p) j R 0 = t := by rw [sdR_o (by omega) (by omega)]; exact e0
      have b2 : sdR T t (fun _ => u) (fun p => crew.testBit p) j R (38 + j) ≤ R (38 + j) + 2778 := sdR_pay (fun _ _ _ => hu) (by omega) (by omega)
      have := hp j hlt
      obtain ⟨r, h3, e3, er, F3, x3⟩ := k_sendAway S2 ha hP x2 y2 hD R2 hlt (show u < 100000 by omega) (by omega) (by omega)
      rw [e2] at er x3
      rw [er] at e3
      simp (maxSteps := 3000000) (disch := first | assumption | omega) only [ms, bO_v, bR_v, bX_l, bX_r, bC_l, bC_r, aLet_v, nI_add, pk_mul, dvI_n, rmI_n, iMax_n, iMin_n, zO_0, zO_1, li_0, li_1, li_2, li_3, li_4, li_5, li_6, li_7, li_8, li_9, li_10, li_12, li_14, li_15, li_16, li_18, li_19, li_20, li_22, li_23, li_24, li_26, li_29, li_30, li_31, li_32, li_36, li_38, li_48, li_50, li_57, li_58, li_59, li_60, li_63, li_97, li_99, li_120, li_122, li_144, li_168, li_194, li_240, li_255, li_284, li_299, li_603, li_999, li_1200, li_1440, li_4095, li_4096, li_6030, li_16384, li_20160, zl0, zl1, zl2, zl3, zl4, ze01, ze02, ze03, ze04, ze10, ze12, ze13, ze14, ze20, ze21, ze23, ze24, ze30, ze31, ze32, ze34, ze40, ze41, ze42, ze43, zt0, zt1, zt2, zt3, zt4, zq0, zq1, zq2, zq3, zq4, it_t, it_f, Bool.true_eq_false, Bool.false_eq_true, na5, na4, na1441, na2, na10, sx_IOIA, sx_IOIS, sx_IONS, sx_IAIO, sx_IAIS, sx_IANS, sx_ISIO, sx_ISIA, sx_ISNS, sx_NSIO, sx_NSIA, sx_NSIS, s_cS_gS S2 ha, e3, hk140]
      exact ih _ _ _ _ (by omega) ⟨j + 1, hlt, rfl, rfl, by rw [sdK, if_pos cb], F2.trans F3, by rw [sdR_yes cb (by omega)]; exact x3⟩
  · obtain rfl : j = T 412 8 := by omega
    simp (maxSteps := 3000000) (disch := first | assumption | omega) only [m_X4_sendEngine_L98, bO_v, bR_v, bX_l, bX_r, bC_l, bC_r, aLet_v, nI_add, pk_mul, dvI_n, rmI_n, iMax_n, iMin_n, zO_0, zO_1, li_0, li_1, li_2, li_3, li_4, li_5, li_6, li_7, li_8, li_9, li_10, li_12, li_14, li_15, li_16, li_18, li_19, li_20, li_22, li_23, li_24, li_26, li_29, li_30, li_31, li_32, li_36, li_38, li_48, li_50, li_57, li_58, li_59, li_60, li_63, li_97, li_99, li_120, li_122, li_144, li_168, li_194, li_240, li_255, li_284, li_299, li_603, li_999, li_1200, li_1440, li_4095, li_4096, li_6030, li_16384, li_20160, zl0, zl1, zl2, zl3, zl4, ze01, ze02, ze03, ze04, ze10, ze12, ze13, ze14, ze20, ze21, ze23, ze24, ze30, ze31, ze32, ze34, ze40, ze41, ze42, ze43, zt0, zt1, zt2, zt3, zt4, zq0, zq1, zq2, zq3, zq4, it_t, it_f, Bool.true_eq_false, Bool.false_eq_true, na5, na4, na1441, na2, na10, sx_IOIA, sx_IOIS, sx_IONS, sx_IAIO, sx_IAIS, sx_IANS, sx_ISIO, sx_ISIA, sx_ISNS, sx_NSIO, sx_NSIA, sx_NSIS, mp, p_cP_gi S2 hP, y2.nP, nI_ltI]
    rw [if_neg hlt]
    exact hk h2 F2 x2
theorem k_restGo (hS : Sh h) (ha : a ∈ stL) (hP : P ∈ plL) (x : StR h a P T R) (y : PlR h P T) (hD : PlD T) (hR : RwD T R) (sp : h_rv h 172 0 = a) (pl : h_rv h 172 1 = P) {A c : Nat} (ef : h_iv h 172 5 = nI A) (hA : A < 4096) (ea : ∀ p, p < T 412 8 → h_iv h 174 p = nI (arr T S p)) (e0 : R 0 = S 0) (ht : S 0 ≤ 20160) (hp : ∀ p, p < T 412 8 → R (38 + p) ≤ 1000000) (hc : c < 1000000) {k148 : Int32 → aH → Option (Int32 × aH)} {Z : Option (Int32 × aH) → Prop}
    (hk : ∀ h2, Fr (fun o => o = a + 2 ∨ o = a + 3) h h2 → StR h2 a P T (sdR T (S 0) (voF T S) (fun p => A.testBit p) (T 412 8) R) → Z (k148 (nI (c + sdK T (S 0) (voF T S) (fun p => A.testBit p) (T 412 8))) h2)) : Z (aL2 (m_X4_carryOut_L73 172 k148) FU (nI c) (nI 0) h) := by
  have d0 := hD.nP
  have a1 := st_in a ha
  have a2 := st_mu a ha
  have p1 := pl_in P hP
  have hf : ∀ p, p < T 412 8 → A.testBit p = true → voF T S p ≤ S 0 + 1389 := fun p hp9 _ => voF_le hD hp9
  refine aL2_run (fun m s1 s2 h2 => ∃ j, j ≤ T 412 8 ∧ m = T 412 8 - j ∧ s2 = nI j ∧ s1 = nI (c + sdK T (S 0) (voF T S) (fun p => A.testBit p) j) ∧ Fr (fun o => o = a + 2 ∨ o = a + 3) h h2 ∧ StR h2 a P T (sdR T (S 0) (voF T S) (fun p => A.testBit p) j R)) ⟨0, Nat.zero_le _, rfl, rfl, rfl, Fr.rf, by rw [sdR_0]; exact x⟩ (by omega) ?_
  rintro rec m s1 s2 h2 ⟨j, hj, rfl, rfl, rfl, F2, x2⟩ ih
  have S2 := F2.sh hS
  have y2 : PlR h2 P T := y.keep (fun o q1 q2 => F2.iv (by omega)) hD
  have mp := k_mplan S2 hP (show h_rv h2 172 1 = P by rw [F2.rv]; exact pl)
  have ms := k_mstate S2 ha (show h_rv h2 172 0 = a by rw [F2.rv]; exact sp)
  have c2 : h_iv h2 172 5 = nI A := by rw [F2.iv (by omega)]; exact ef
  by_cases hlt : j < T 412 8
  · have kh := k_has (h := h2) (x := A) (j := j) (by omega) (by omega)
    simp (maxSteps := 3000000) (disch := first | assumption | omega) only [m_X4_carryOut_L73, bO_v, bR_v, bX_l, bX_r, bC_l, bC_r, aLet_v, nI_add, pk_mul, dvI_n, rmI_n, iMax_n, iMin_n, zO_0, zO_1, li_0, li_1, li_2, li_3, li_4, li_5, li_6, li_7, li_8, li_9, li_10, li_12, li_14, li_15, li_16, li_18, li_19, li_20, li_22, li_23, li_24, li_26, li_29, li_30, li_31, li_32, li_36, li_38, li_48, li_50, li_57, li_58, li_59, li_60, li_63, li_97, li_99, li_120, li_122, li_144, li_168, li_194, li_240, li_255, li_284, li_299, li_603, li_999, li_1200, li_1440, li_4095, li_4096, li_6030, li_16384, li_20160, zl0, zl1, zl2, zl3, zl4, ze01, ze02, ze03, ze04, ze10, ze12, ze13, ze14, ze20, ze21, ze23, ze24, ze30, ze31, ze32, ze34, ze40, ze41, ze42, ze43, zt0, zt1, zt2, zt3, zt4, zq0, zq1, zq2, zq3, zq4, it_t, it_f, Bool.true_eq_false, Bool.false_eq_true, na5, na4, na1441, na2, na10, sx_IOIA, sx_IOIS, sx_IONS, sx_IAIO, sx_IAIS, sx_IANS, sx_ISIO, sx_ISIA, sx_ISNS, sx_NSIO, sx_NSIA, sx_NSIS, mp, p_cP_gi S2 hP, y2.nP, nI_ltI, c_cU_gi S2, c2, kh, b2i_0]
    rw [if_pos hlt]
    refine aJ_gen (fun k142 hk142 => ?_)
    cases cb : A.testBit j
    · rw [if_pos rfl, hk142]
      simp only [bO_v, bR_v, bX_l, bX_r, bC_l, bC_r, aLet_v, nI_add, pk_mul, dvI_n, rmI_n, iMax_n, iMin_n, zO_0, zO_1, li_0, li_1, li_2, li_3, li_4, li_5, li_6, li_7, li_8, li_9, li_10, li_12, li_14, li_15, li_16, li_18, li_19, li_20, li_22, li_23, li_24, li_26, li_29, li_30, li_31, li_32, li_36, li_38, li_48, li_50, li_57, li_58, li_59, li_60, li_63, li_97, li_99, li_120, li_122, li_144, li_168, li_194, li_240, li_255, li_284, li_299, li_603, li_999, li_1200, li_1440, li_4095, li_4096, li_6030, li_16384, li_20160, zl0, zl1, zl2, zl3, zl4, ze01, ze02, ze03, ze04, ze10, ze12, ze13, ze14, ze20, ze21, ze23, ze24, ze30, ze31, ze32, ze34, ze40, ze41, ze42, ze43, zt0, zt1, zt2, zt3, zt4, zq0, zq1, zq2, zq3, zq4, it_t, it_f, Bool.true_eq_false, Bool.false_eq_true, na5, na4, na1441, na2, na10, sx_IOIA, sx_IOIS, sx_IONS, sx_IAIO, sx_IAIS, sx_IANS, sx_ISIO, sx_ISIA, sx_ISNS, sx_NSIO, sx_NSIA, sx_NSIS]
      exact ih _ _ _ _ (by omega) ⟨j + 1, hlt, rfl, rfl, by rw [sdK, cb]; rfl, F2, by rw [sdR_no cb (by omega)]; exact x2⟩
    · rw [if_neg (by decide)]
      have v9 := voF_le (S := S) hD hlt
      have R2 : RwD T (sdR T (S 0) (voF T S) (fun p => A.testBit p) j R) := sdR_R hD hR hj ht (fun p q1 q2 => hf p (by omega) q2) (fun p hp9 => by have := hp p hp9; omega)
      have e2 : sdR T (S 0) (voF T S) (fun p => A.testBit p) j R 0 = S 0 := by rw [sdR_o (by omega) (by omega)]; exact e0
      have b2 : sdR T (S 0) (voF T S) (fun p => A.testBit p) j R (38 + j) ≤ R (38 + j) + 2778 := sdR_pay (fun p q1 q2 => hf p (by omega) q2) (by omega) (by omega)
      have := hp j hlt
      have v1 : S 0 ≤ voF T S j := by unfold voF; omega
      obtain ⟨r, h3, e3, er, F3, x3⟩ := k_sendAway S2 ha hP x2 y2 hD R2 hlt (show voF T S j < 100000 by omega) (by omega) (by omega)
      rw [e2] at er x3
      rw [er] at e3
      have ar : h_iv h2 174 j = nI (arr T S j) := by rw [F2.iv (by omega)]; exact ea j hlt
      have tm := x2.tm
      rw [e2] at tm
      have sm : S 0 + (arr T S j + T 420 j) = voF T S j := by unfold voF; omega
      simp (maxSteps := 3000000) (disch := first | assumption | omega) only [ms, mp, bO_v, bR_v, bX_l, bX_r, bC_l, bC_r, aLet_v, nI_add, pk_mul, dvI_n, rmI_n, iMax_n, iMin_n, zO_0, zO_1, li_0, li_1, li_2, li_3, li_4, li_5, li_6, li_7, li_8, li_9, li_10, li_12, li_14, li_15, li_16, li_18, li_19, li_20, li_22, li_23, li_24, li_26, li_29, li_30, li_31, li_32, li_36, li_38, li_48, li_50, li_57, li_58, li_59, li_60, li_63, li_97, li_99, li_120, li_122, li_144, li_168, li_194, li_240, li_255, li_284, li_299, li_603, li_999, li_1200, li_1440, li_4095, li_4096, li_6030, li_16384, li_20160, zl0, zl1, zl2, zl3, zl4, ze01, ze02, ze03, ze04, ze10, ze12, ze13, ze14, ze20, ze21, ze23, ze24, ze30, ze31, ze32, ze34, ze40, ze41, ze42, ze43, zt0, zt1, zt2, zt3, zt4, zq0, zq1, zq2, zq3, zq4, it_t, it_f, Bool.true_eq_false, Bool.false_eq_true, na5, na4, na1441, na2, na10, sx_IOIA, sx_IOIS, sx_IONS, sx_IAIO, sx_IAIS, sx_IANS, sx_ISIO, sx_ISIA, sx_ISNS, sx_NSIO, sx_NSIA, sx_NSIS, c_pu1 S2, c_cu1_al S2, ar, p_pps S2 hP, p_ep_al S2 hP, p_ep_gi S2 hP, y2.trv j hlt, s_cS_gi S2 ha, tm, sm, s_cS_gS S2 ha, e3, hk142]
      exact ih _ _ _ _ (by omega) ⟨j + 1, hlt, rfl, rfl, by rw [sdK, if_pos cb, Nat.add_assoc], F2.trans F3, by rw [sdR_yes cb (by omega)]; exact x3⟩
  · obtain rfl : j = T 412 8 := by omega
    simp (maxSteps := 3000000) (disch := first | assumption | omega) only [m_X4_carryOut_L73, bO_v, bR_v, bX_l, bX_r, bC_l, bC_r, aLet_v, nI_add, pk_mul, dvI_n, rmI_n, iMax_n, iMin_n, zO_0, zO_1, li_0, li_1, li_2, li_3, li_4, li_5, li_6, li_7, li_8, li_9, li_10, li_12, li_14, li_15, li_16, li_18, li_19, li_20, li_22, li_23, li_24, li_26, li_29, li_30, li_31, li_32, li_36, li_38, li_48, li_50, li_57, li_58, li_59, li_60, li_63, li_97, li_99, li_120, li_122, li_144, li_168, li_194, li_240, li_255, li_284, li_299, li_603, li_999, li_1200, li_1440, li_4095, li_4096, li_6030, li_16384, li_20160, zl0, zl1, zl2, zl3, zl4, ze01, ze02, ze03, ze04, ze10, ze12, ze13, ze14, ze20, ze21, ze23, ze24, ze30, ze31, ze32, ze34, ze40, ze41, ze42, ze43, zt0, zt1, zt2, zt3, zt4, zq0, zq1, zq2, zq3, zq4, it_t, it_f, Bool.true_eq_false, Bool.false_eq_true, na5, na4, na1441, na2, na10, sx_IOIA, sx_IOIS, sx_IONS, sx_IAIO, sx_IAIS, sx_IANS, sx_ISIO, sx_ISIA, sx_ISNS, sx_NSIO, sx_NSIA, sx_NSIS, mp, p_cP_gi S2 hP, y2.nP, nI_ltI]
    rw [if_neg hlt]
    exact hk h2 F2 x2
/-- the book of the open call -/
def LB (a c m v : Nat) (R : Nat → Nat) (h : aH) : Prop := h_iv h (a + 13) c = nI m ∧ h_iv h (a + 14) c = nI v ∧ ∀ j, j < v → h_iv h (a + 15) (c * 5 + j) = nI (R (299 + 19 * c + 4 + 3 * j)) ∧ h_iv h (a + 16) (c * 5 + j) = nI (R (299 + 19 * c + 4 + 3 * j + 1)) ∧ h_iv h (a + 17) (c * 5 + j) = nI (R (299 + 19 * c + 4 + 3 * j + 2))
theorem LB.fr {A : Nat → Prop} {h2 : aH} {c m v : Nat} {R2 : Nat → Nat} (x : LB a c m v R h) (F : Fr A h h2) (hA : ∀ o, A o → ¬ (a + 13 ≤ o ∧ o < a + 18)) (e : ∀ j, 299 + 19 * c ≤ j → R2 j = R j) : LB a c m v R2 h2 := by
  have iv : ∀ o, a + 13 ≤ o → o < a + 18 → h_iv h2 o = h_iv h o := fun o q1 q2 => F.iv (fun q => hA o q ⟨q1, q2⟩)
  refine ⟨by rw [iv _ (by omega) (by omega)]; exact x.1, by rw [iv _ (by omega) (by omega)]; exact x.2.1, fun j hj => ?_⟩
  obtain ⟨x1, x2, x3⟩ := x.2.2 j hj
  rw [iv _ (by omega) (by omega), iv _ (by omega) (by omega), iv _ (by omega) (by omega), e _ (by omega), e _ (by omega), e _ (by omega)]
  exact ⟨x1, x2, x3⟩
theorem k_addLeaver (hS : Sh h) (ha : a ∈ stL) {c v : Nat} (hc : c < 16) (hv : v < 5) (e0 : h_iv h (a + 11) 0 = nI c) (e1 : h_iv h (a + 14) c = nI v) (x y z : Int32) :
    m_X0_addLeaver (a + 11) x y z h = some ((), h_si (h_si (h_si (h_si h (a + 15) (c * 5 + v) x) (a + 16) (c * 5 + v) y) (a + 17) (c * 5 + v) z) (a + 14) c (nI (v + 1))) := by
  have a1 := st_in a ha
  have S1 : Sh (h_si h (a + 15) (c * 5 + v) x) := hS.si _ _ _
  have S2 : Sh (h_si (h_si h (a + 15) (c * 5 + v) x) (a + 16) (c * 5 + v) y) := S1.si _ _ _
  have S3 : Sh (h_si (h_si (h_si h (a + 15) (c * 5 + v) x) (a + 16) (c * 5 + v) y) (a + 17) (c * 5 + v) z) := S2.si _ _ _
  have e03 : h_iv (h_si (h_si (h_si h (a + 15) (c * 5 + v) x) (a + 16) (c * 5 + v) y) (a + 17) (c * 5 + v) z) (a + 11) 0 = nI c := by rw [si_ne (by omega), si_ne (by omega), si_ne (by omega)]; exact e0
  have e13 : h_iv (h_si (h_si (h_si h (a + 15) (c * 5 + v) x) (a + 16) (c * 5 + v) y) (a + 17) (c * 5 + v) z) (a + 14) c = nI v := by rw [si_ne (by omega), si_ne (by omega), si_ne (by omega)]; exact e1
  simp (maxSteps := 3000000) (disch := first | assumption | omega) only [m_X0_addLeaver, bO_v, bR_v, bX_l, bX_r, bC_l, bC_r, aLet_v, nI_add, pk_mul, dvI_n, rmI_n, iMax_n, iMin_n, zO_0, zO_1, li_0, li_1, li_2, li_3, li_4, li_5, li_6, li_7, li_8, li_9, li_10, li_12, li_14, li_15, li_16, li_18, li_19, li_20, li_22, li_23, li_24, li_26, li_29, li_30, li_31, li_32, li_36, li_38, li_48, li_50, li_57, li_58, li_59, li_60, li_63, li_97, li_99, li_120, li_122, li_144, li_168, li_194, li_240, li_255, li_284, li_299, li_603, li_999, li_1200, li_1440, li_4095, li_4096, li_6030, li_16384, li_20160, zl0, zl1, zl2, zl3, zl4, ze01, ze02, ze03, ze04, ze10, ze12, ze13, ze14, ze20, ze21, ze23, ze24, ze30, ze31, ze32, ze34, ze40, ze41, ze42, ze43, zt0, zt1, zt2, zt3, zt4, zq0, zq1, zq2, zq3, zq4, it_t, it_f, Bool.true_eq_false, Bool.false_eq_true, na5, na4, na1441, na2, na10, sx_IOIA, sx_IOIS, sx_IONS, sx_IAIO, sx_IAIS, sx_IANS, sx_ISIO, sx_ISIA, sx_ISNS, sx_NSIO, sx_NSIA, sx_NSIS, s_cL_gi hS ha, e0, s_plleavers hS ha, s_clleavers_al hS ha, e1, s_plengs hS ha, s_clengs_as hS ha, s_pltimes S1 ha, s_cltimes_as S1 ha, s_plcrews S2 ha, s_clcrews_as S2 ha, s_plleavers S3 ha, s_cL_gi S3 ha, e03, s_clleavers_al S3 ha, e13, s_clleavers_as S3 ha]
theorem k_sendEngine (hS : Sh h) (ha : a ∈ stL) (hP : P ∈ plL) (x : StR h a P T R) (y : PlR h P T) (hD : PlD T) (hR : RwD T R) {k i m : Nat} (hk : k < T 412 11) (hi : i < T 433 k) (sp : h_rv h 172 0 = a) (pl : h_rv h 172 1 = P) (ec : h_iv h 177 i = nI (plJ T S k i)) (el : h_iv h 178 i = nI (plX T S k i)) (h0 : plJ T S k i ≠ 0) (e0 : R 0 = S 0) (e1 : R 1 = S 1) (h16 : S 1 < 16) (ht : S 0 ≤ 20160) (hp : ∀ p, p < T 412 8 → R (38 + p) ≤ 1000000) (lb : LB a (S 1) m (plV T S k i) R h) :
    OK (m_X4_sendEngine 172 (P + 47 + 3 * k) (nI i) h) (fun r h1 => r = nI (sdK T (S 0) (fun _ => enU T S k i) (fun p => (plJ T S k i).testBit p) (T 412 8)) ∧ CF a h h1 ∧ StR h1 a P T (sdR T (S 0) (fun _ => enU T S k i) (fun p => (plJ T S k i).testBit p) (T 412 8) (egR T S k i R)) ∧ LB a (S 1) m (plV T S k i + 1) (sdR T (S 0) (fun _ => enU T S k i) (fun p => (plJ T S k i).testBit p) (T 412 8) (egR T S k i R)) h1) := by
  have d0 := hD.nP
  have d2 := hD.nE
  have d3 := hD.ken k hk
  have d4 := hD.nK
  have a1 := st_in a ha
  have a2 := st_mu a ha
  have p1 := pl_in P hP
  have he := hD.ke k hk i hi
  change enK T k i < T 412 10 at he
  have ke := y.ke k hk i hi
  change h_iv h (P + 49 + 3 * k) i = nI (enK T k i) at ke
  have mp := k_mplan hS hP pl
  have ms := k_mstate hS ha sp
  have vl := plV_le T S k i
  obtain ⟨u1, u2⟩ := enU_le (S := S) hD hk hi
  have l1 := plX_le (S := S) hD (k := k) (i := i)
  have lt2 := two_pow_lt d0 (plJ_lt (S := S) hD hk hi)
  have tm := x.tm
  rw [e0] at tm
  obtain ⟨c1, c2, c3, c4, c5, c6⟩ := egR_c (S := S) (R := R) (T := T) (k := k) (i := i) (by omega)
  have su : S 0 + plX T S k i + 2 * T 425 (enK T k i) + T 428 k = enU T S k i := rfl
  simp (maxSteps := 3000000) (disch := first | assumption | omega) only [m_X4_sendEngine, bO_v, bR_v, bX_l, bX_r, bC_l, bC_r, aLet_v, nI_add, pk_mul, dvI_n, rmI_n, iMax_n, iMin_n, zO_0, zO_1, li_0, li_1, li_2, li_3, li_4, li_5, li_6, li_7, li_8, li_9, li_10, li_12, li_14, li_15, li_16, li_18, li_19, li_20, li_22, li_23, li_24, li_26, li_29, li_30, li_31, li_32, li_36, li_38, li_48, li_50, li_57, li_58, li_59, li_60, li_63, li_97, li_99, li_120, li_122, li_144, li_168, li_194, li_240, li_255, li_284, li_299, li_603, li_999, li_1200, li_1440, li_4095, li_4096, li_6030, li_16384, li_20160, zl0, zl1, zl2, zl3, zl4, ze01, ze02, ze03, ze04, ze10, ze12, ze13, ze14, ze20, ze21, ze23, ze24, ze30, ze31, ze32, ze34, ze40, ze41, ze42, ze43, zt0, zt1, zt2, zt3, zt4, zq0, zq1, zq2, zq3, zq4, it_t, it_f, Bool.true_eq_false, Bool.false_eq_true, na5, na4, na1441, na2, na10, sx_IOIA, sx_IOIS, sx_IONS, sx_IAIO, sx_IAIS, sx_IANS, sx_ISIO, sx_ISIA, sx_ISNS, sx_NSIO, sx_NSIA, sx_NSIS, p_eke_p hS hP, p_eke_al hS hP, ke, ms, s_cS_gi hS ha, tm, c_pu5 hS, c_cu5_al hS, el, mp, p_pes hS hP, p_ee_al hS hP, p_ee_gi hS hP, y.drv _ he, p_ek_gi hS hP, y.dur k hk, su, s_pret hS ha, s_cret_as hS ha]
  have S1 : Sh (h_si h (a + 9) (enK T k i) (nI (enU T S k i))) := hS.si _ _ _
  have ms1 : gr (h_si h (a + 9) (enK T k i) (nI (enU T S k i))) 4 172 0 = some a := ms
  have ec1 : h_iv (h_si h (a + 9) (enK T k i) (nI (enU T S k i))) 177 i = nI (plJ T S k i) := by rw [si_ne (by omega)]; exact ec
  simp (maxSteps := 3000000) (disch := first | assumption | omega) only [bO_v, bR_v, bX_l, bX_r, bC_l, bC_r, aLet_v, nI_add, pk_mul, dvI_n, rmI_n, iMax_n, iMin_n, zO_0, zO_1, li_0, li_1, li_2, li_3, li_4, li_5, li_6, li_7, li_8, li_9, li_10, li_12, li_14, li_15, li_16, li_18, li_19, li_20, li_22, li_23, li_24, li_26, li_29, li_30, li_31, li_32, li_36, li_38, li_48, li_50, li_57, li_58, li_59, li_60, li_63, li_97, li_99, li_120, li_122, li_144, li_168, li_194, li_240, li_255, li_284, li_299, li_603, li_999, li_1200, li_1440, li_4095, li_4096, li_6030, li_16384, li_20160, zl0, zl1, zl2, zl3, zl4, ze01, ze02, ze03, ze04, ze10, ze12, ze13, ze14, ze20, ze21, ze23, ze24, ze30, ze31, ze32, ze34, ze40, ze41, ze42, ze43, zt0, zt1, zt2, zt3, zt4, zq0, zq1, zq2, zq3, zq4, it_t, it_f, Bool.true_eq_false, Bool.false_eq_true, na5, na4, na1441, na2, na10, sx_IOIA, sx_IOIS, sx_IONS, sx_IAIO, sx_IAIS, sx_IANS, sx_ISIO, sx_ISIA, sx_ISNS, sx_NSIO, sx_NSIA, sx_NSIS, ms1, s_pcrew S1 ha, c_pu4 S1, c_cu4_al S1, ec1, s_ccrew_as S1 ha]
  have S2 : Sh (h_si (h_si h (a + 9) (enK T k i) (nI (enU T S k i))) (a + 10) (enK T k i) (nI (plJ T S k i))) := S1.si _ _ _
  have ms2 : gr (h_si (h_si h (a + 9) (enK T k i) (nI (enU T S k i))) (a + 10) (enK T k i) (nI (plJ T S k i))) 4 172 0 = some a := ms
  have ec2 : h_iv (h_si (h_si h (a + 9) (enK T k i) (nI (enU T S k i))) (a + 10) (enK T k i) (nI (plJ T S k i))) 177 i = nI (plJ T S k i) := by rw [si_ne (by omega), si_ne (by omega)]; exact ec
  have m0 := x.many
  rw [e1] at m0
  have al := k_addLeaver S2 ha h16 (v := plV T S k i) (by omega) (by rw [si_ne (by omega), si_ne (by omega)]; exact m0) (by rw [si_ne (by omega), si_ne (by omega)]; exact lb.2.1) (nI (enK T k i)) (nI (S 0 + plX T S k i)) (nI (plJ T S k i))
  simp (maxSteps := 3000000) (disch := first | assumption | omega) only [bO_v, bR_v, bX_l, bX_r, bC_l, bC_r, aLet_v, nI_add, pk_mul, dvI_n, rmI_n, iMax_n, iMin_n, zO_0, zO_1, li_0, li_1, li_2, li_3, li_4, li_5, li_6, li_7, li_8, li_9, li_10, li_12, li_14, li_15, li_16, li_18, li_19, li_20, li_22, li_23, li_24, li_26, li_29, li_30, li_31, li_32, li_36, li_38, li_48, li_50, li_57, li_58, li_59, li_60, li_63, li_97, li_99, li_120, li_122, li_144, li_168, li_194, li_240, li_255, li_284, li_299, li_603, li_999, li_1200, li_1440, li_4095, li_4096, li_6030, li_16384, li_20160, zl0, zl1, zl2, zl3, zl4, ze01, ze02, ze03, ze04, ze10, ze12, ze13, ze14, ze20, ze21, ze23, ze24, ze30, ze31, ze32, ze34, ze40, ze41, ze42, ze43, zt0, zt1, zt2, zt3, zt4, zq0, zq1, zq2, zq3, zq4, it_t, it_f, Bool.true_eq_false, Bool.false_eq_true, na5, na4, na1441, na2, na10, sx_IOIA, sx_IOIS, sx_IONS, sx_IAIO, sx_IAIS, sx_IANS, sx_ISIO, sx_ISIA, sx_ISNS, sx_NSIO, sx_NSIA, sx_NSIS, ms2, s_plog S2 ha, c_pu4 S2, c_cu4_al S2, ec2, s_cL_gS S2 ha, al]
  generalize hg4 : h_si (h_si (h_si (h_si (h_si (h_si h (a + 9) (enK T k i) (nI (enU T S k i))) (a + 10) (enK T k i) (nI (plJ T S k i))) (a + 15) (S 1 * 5 + plV T S k i) (nI (enK T k i))) (a + 16) (S 1 * 5 + plV T S k i) (nI (S 0 + plX T S k i))) (a + 17) (S 1 * 5 + plV T S k i) (nI (plJ T S k i))) (a + 14) (S 1) (nI (plV T S k i + 1)) = h4
  have F4 : CF a h h4 := by
    rw [← hg4]
    exact (((((Fr.si (A := fun o => a ≤ o ∧ o < a + 18) (by omega)).trans (Fr.si (by omega))).trans (Fr.si (by omega))).trans (Fr.si (by omega))).trans (Fr.si (by omega))).trans (Fr.si (by omega))
  have S4 := F4.sh hS
  have y4 := F4.plan ha hP y hD
  have R4 := egR_R hD hR hk hi e0 e1 ht h0
  have iv : ∀ o q, ¬ (o = a + 9 ∧ q = enK T k i) → ¬ (o = a + 10 ∧ q = enK T k i) → ¬ ((o = a + 15 ∨ o = a + 16 ∨ o = a + 17) ∧ q = S 1 * 5 + plV T S k i) → ¬ (o = a + 14 ∧ q = S 1) → h_iv h4 o q = h_iv h o q := fun o q q1 q2 q3 q4 => by
    rw [← hg4, si_ne (by omega), si_ne (by omega), si_ne (by omega), si_ne (by omega), si_ne (by omega), si_ne (by omega)]
  have w9 : h_iv h4 (a + 9) (enK T k i) = nI (enU T S k i) := by rw [← hg4, si_ne (by omega), si_ne (by omega), si_ne (by omega), si_ne (by omega), si_ne (by omega), si_at]
  have w10 : h_iv h4 (a + 10) (enK T k i) = nI (plJ T S k i) := by rw [← hg4, si_ne (by omega), si_ne (by omega), si_ne (by omega), si_ne (by omega), si_at]
  have w15 : h_iv h4 (a + 15) (S 1 * 5 + plV T S k i) = nI (enK T k i) := by rw [← hg4, si_ne (by omega), si_ne (by omega), si_ne (by omega), si_at]
  have w16 : h_iv h4 (a + 16) (S 1 * 5 + plV T S k i) = nI (S 0 + plX T S k i) := by rw [← hg4, si_ne (by omega), si_ne (by omega), si_at]
  have w17 : h_iv h4 (a + 17) (S 1 * 5 + plV T S k i) = nI (plJ T S k i) := by rw [← hg4, si_ne (by omega), si_at]
  have w14 : h_iv h4 (a + 14) (S 1) = nI (plV T S k i + 1) := by rw [← hg4, si_at]
  have rv4 : h_rv h4 = h_rv h := F4.rv
  have x4 : StR h4 a P T (egR T S k i R) := by
    refine x.engo hD hR (by rw [rv4]) (fun o q q1 q2 q3 => iv o q (by omega) (by omega) (by omega) (by omega)) (fun j hj => ?_) (fun e he2 => ?_) (fun e he2 hq => ?_)
    · unfold egR
      rw [pt_n (by omega), pt_n (by omega), pt_n (by omega), pt_n (by omega), pt_n (by omega)]
    · by_cases c : e = enK T k i
      · rw [c, c4, w9]
      · rw [iv _ _ (by omega) (by omega) (by omega) (by omega), (egR_e c (by omega)).1]; exact x.ret e he2
    · by_cases c : e = enK T k i
      · rw [c, c6, w10]
      · rw [(egR_e c (by omega)).1, egR_o (by omega) (by omega)] at hq
        rw [iv _ _ (by omega) (by omega) (by omega) (by omega), (egR_e c (by omega)).2.2]; exact x.crew e he2 hq
  have lb4 : LB a (S 1) m (plV T S k i + 1) (egR T S k i R) h4 := by
    refine ⟨by rw [iv _ _ (by omega) (by omega) (by omega) (by omega)]; exact lb.1, w14, fun j hj => ?_⟩
    by_cases c : j = plV T S k i
    · rw [c, w15, w16, w17, c1, c2, c3]; exact ⟨rfl, rfl, rfl⟩
    · rw [iv _ _ (by omega) (by omega) (by omega) (by omega), iv _ _ (by omega) (by omega) (by omega) (by omega), iv _ _ (by omega) (by omega) (by omega) (by omega), egR_o (by omega) (by omega), egR_o (by omega) (by omega), egR_o (by omega) (by omega)]
      exact lb.2.2 j (by omega)
  refine aJ_gen (R := fun o => OK o _) (fun k146 hk146 => ?_)
  refine k_crewGo (Z := fun o => OK o _) S4 ha hP x4 y4 hD R4 (by rw [rv4]; exact sp) (by rw [rv4]; exact pl) (show i < 5 by omega) (by rw [iv _ _ (by omega) (by omega) (by omega) (by omega)]; exact ec) lt2 (by rw [egR_o (by omega) (by omega)]; exact e0) ht u1 (by omega) (fun p hp9 => by rw [egR_o (by omega) (by omega)]; exact hp p hp9) (fun h5 F5 x5 => ?_)
  rw [hk146]
  exact ok_ret ⟨rfl, F4.trans (F5.mono (fun o q => by omega)), x5, lb4.fr F5 (fun o q => by omega) (fun j hj => sdR_o (by omega) d0)⟩
end
