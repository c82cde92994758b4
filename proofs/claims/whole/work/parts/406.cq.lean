/-! the class's queries of night, persons and pagers -/
section
variable {h : aH} {a P : Nat} {T : Nat → Nat → Nat} {S : Nat → Nat}
theorem k_has {x j : Nat} (hx : x < 2147483648) (hj : j < 32) : m_X11_has (nI x) (nI j) h = some (b2i (x.testBit j), h) := by
  have e := bit_n hx hj
  by_cases hb : x.testBit j = true
  · have e2 : ¬ ((nI x >>> (nI j &&& nI 31)) &&& nI 1 = nI 0) := fun q => by rw [e.mp q] at hb; cases hb
    rw [b2i_t hb]
    exact (if_neg e2).trans (by rw [show (1 : Int32) = nI 1 from rfl, zO_1]; rfl)
  · have hb2 : x.testBit j = false := by simpa using hb
    rw [b2i_f hb2]
    exact (if_pos (e.mpr hb2)).trans (by rw [show (0 : Int32) = nI 0 from rfl, zO_0]; rfl)
theorem k_covers {t : Nat} (hS : Sh h) (hP : P ∈ plL) (x : PlR h P T) (hD : PlD T) (ht : t < 1000000) : m_X5_covers (P + 1) (nI t) h = some (b2i (isN (T 418 0) (T 418 1) t), h) := by
  have hb := hD.b
  have he := hD.e
  have n0 := x.ni 0 (by omega)
  have n1 := x.ni 1 (by omega)
  have hh : t / 60 % 24 < 24 := Nat.mod_lt _ (by decide)
  have key : isN (T 418 0) (T 418 1) t = decide ((t / 60 % 24 + 24 - T 418 0) % 24 < (T 418 1 + 24 - T 418 0) % 24) := rfl
  have hbe := hD.be
  generalize T 418 0 = b at *
  generalize T 418 1 = e at *
  simp (maxSteps := 3000000) (disch := first | assumption | omega | exact hR.all _) only [m_X5_covers, bO_v, bR_v, bX_l, bX_r, bC_l, bC_r, aJ_v, aLet_v, nI_add, pk_mul, dvI_n, rmI_n, iMax_n, iMin_n, zO_0, zO_1, li_0, li_1, li_2, li_3, li_4, li_5, li_6, li_7, li_8, li_9, li_10, li_12, li_14, li_15, li_16, li_18, li_19, li_20, li_22, li_23, li_24, li_26, li_29, li_30, li_31, li_32, li_36, li_38, li_48, li_50, li_57, li_58, li_59, li_60, li_63, li_97, li_99, li_120, li_122, li_144, li_168, li_194, li_240, li_255, li_284, li_299, li_603, li_999, li_1200, li_1440, li_4095, li_4096, li_6030, li_16384, li_20160, p_cP_gi hS hP, p_cP_gL hS hP, p_cP_pi hS hP, p_cP_pL hS hP, p_cP_gS hS hP, p_cN_gi hS hP, p_cN_gL hS hP, p_cN_pi hS hP, p_cN_pL hS hP, p_cN_gS hS hP, p_cps_ln hS hP, p_ctr_al hS hP, p_ctr_as hS hP, p_ctr_ln hS hP, p_cgs_ln hS hP, p_ces_ln hS hP, p_cks_ln hS hP, p_cable_al hS hP, p_cable_as hS hP, p_cable_ln hS hP, p_pN hS hP, p_pps hS hP, p_ptr hS hP, p_pgs hS hP, p_pes hS hP, p_pks hS hP, p_pable hS hP, p_ep_al hS hP, p_ep_gi hS hP, p_ep_gL hS hP, p_ep_pi hS hP, p_ep_pL hS hP, p_ep_gS hS hP, p_eg_al hS hP, p_eg_gi hS hP, p_eg_gL hS hP, p_eg_pi hS hP, p_eg_pL hS hP, p_eg_gS hS hP, p_egr_p hS hP, p_egr_al hS hP, p_egr_as hS hP, p_egr_ln hS hP, p_ee_al hS hP, p_ee_gi hS hP, p_ee_gL hS hP, p_ee_pi hS hP, p_ee_pL hS hP, p_ee_gS hS hP, p_ees_p hS hP, p_ees_al hS hP, p_ees_as hS hP, p_ees_ln hS hP, p_eed_p hS hP, p_eed_al hS hP, p_eed_as hS hP, p_eed_ln hS hP, p_ek_al hS hP, p_ek_gi hS hP, p_ek_gL hS hP, p_ek_pi hS hP, p_ek_pL hS hP, p_ek_gS hS hP, p_ekg_p hS hP, p_ekg_al hS hP, p_ekg_as hS hP, p_ekg_ln hS hP, p_eke_p hS hP, p_eke_al hS hP, p_eke_as hS hP, p_eke_ln hS hP, n0, n1]
  generalize t / 60 % 24 = u at *
  simp (maxSteps := 3000000) (disch := first | assumption | omega | exact hR.all _) only [nI_ltI, nI_leI]
  by_cases c1 : b < e
  · rw [if_pos c1]
    by_cases c2 : b ≤ u
    · rw [if_pos c2]
      by_cases c3 : u < e
      · rw [if_pos c3, b2i_t (key.trans (decide_eq_true (by omega)))]
      · rw [if_neg c3, b2i_f (key.trans (decide_eq_false (by omega)))]
    · rw [if_neg c2, b2i_f (key.trans (decide_eq_false (by omega)))]
  · rw [if_neg c1]
    by_cases c2 : b ≤ u
    · rw [if_pos c2, b2i_t (key.trans (decide_eq_true (by omega)))]
    · rw [if_neg c2]
      by_cases c3 : u < e
      · rw [if_pos c3, b2i_t (key.trans (decide_eq_true (by omega)))]
      · rw [if_neg c3, b2i_f (key.trans (decide_eq_false (by omega)))]
theorem k_minutesBefore {t : Nat} (hS : Sh h) (hP : P ∈ plL) (x : PlR h P T) (hD : PlD T) (ht : t < 1000000) : m_X5_minutesBefore (P + 1) (nI t) h = some (nI (nm (T 418 0) (T 418 1) t), h) := by
  have hb := hD.b
  have he := hD.e
  have n0 := x.ni 0 (by omega)
  have n1 := x.ni 1 (by omega)
  rw [← mbf_nm hb he hD.be]
  unfold mbf
  generalize T 418 0 = b at *
  generalize T 418 1 = e at *
  simp (maxSteps := 3000000) (disch := first | assumption | omega | exact hR.all _) only [m_X5_minutesBefore, bO_v, bR_v, bX_l, bX_r, bC_l, bC_r, aJ_v, aLet_v, nI_add, pk_mul, dvI_n, rmI_n, iMax_n, iMin_n, zO_0, zO_1, li_0, li_1, li_2, li_3, li_4, li_5, li_6, li_7, li_8, li_9, li_10, li_12, li_14, li_15, li_16, li_18, li_19, li_20, li_22, li_23, li_24, li_26, li_29, li_30, li_31, li_32, li_36, li_38, li_48, li_50, li_57, li_58, li_59, li_60, li_63, li_97, li_99, li_120, li_122, li_144, li_168, li_194, li_240, li_255, li_284, li_299, li_603, li_999, li_1200, li_1440, li_4095, li_4096, li_6030, li_16384, li_20160, p_cP_gi hS hP, p_cP_gL hS hP, p_cP_pi hS hP, p_cP_pL hS hP, p_cP_gS hS hP, p_cN_gi hS hP, p_cN_gL hS hP, p_cN_pi hS hP, p_cN_pL hS hP, p_cN_gS hS hP, p_cps_ln hS hP, p_ctr_al hS hP, p_ctr_as hS hP, p_ctr_ln hS hP, p_cgs_ln hS hP, p_ces_ln hS hP, p_cks_ln hS hP, p_cable_al hS hP, p_cable_as hS hP, p_cable_ln hS hP, p_pN hS hP, p_pps hS hP, p_ptr hS hP, p_pgs hS hP, p_pes hS hP, p_pks hS hP, p_pable hS hP, p_ep_al hS hP, p_ep_gi hS hP, p_ep_gL hS hP, p_ep_pi hS hP, p_ep_pL hS hP, p_ep_gS hS hP, p_eg_al hS hP, p_eg_gi hS hP, p_eg_gL hS hP, p_eg_pi hS hP, p_eg_pL hS hP, p_eg_gS hS hP, p_egr_p hS hP, p_egr_al hS hP, p_egr_as hS hP, p_egr_ln hS hP, p_ee_al hS hP, p_ee_gi hS hP, p_ee_gL hS hP, p_ee_pi hS hP, p_ee_pL hS hP, p_ee_gS hS hP, p_ees_p hS hP, p_ees_al hS hP, p_ees_as hS hP, p_ees_ln hS hP, p_eed_p hS hP, p_eed_al hS hP, p_eed_as hS hP, p_eed_ln hS hP, p_ek_al hS hP, p_ek_gi hS hP, p_ek_gL hS hP, p_ek_pi hS hP, p_ek_pL hS hP, p_ek_gS hS hP, p_ekg_p hS hP, p_ekg_al hS hP, p_ekg_as hS hP, p_ekg_ln hS hP, p_eke_p hS hP, p_eke_al hS hP, p_eke_as hS hP, p_eke_ln hS hP, n0, n1, iMax0_sub, nI_ltI]
  by_cases c1 : b < e
  · rw [if_pos c1, if_pos c1]
    simp (maxSteps := 3000000) (disch := first | assumption | omega | exact hR.all _) only [bO_v, bR_v, bX_l, bX_r, bC_l, bC_r, aJ_v, aLet_v, nI_add, pk_mul, dvI_n, rmI_n, iMax_n, iMin_n, zO_0, zO_1, li_0, li_1, li_2, li_3, li_4, li_5, li_6, li_7, li_8, li_9, li_10, li_12, li_14, li_15, li_16, li_18, li_19, li_20, li_22, li_23, li_24, li_26, li_29, li_30, li_31, li_32, li_36, li_38, li_48, li_50, li_57, li_58, li_59, li_60, li_63, li_97, li_99, li_120, li_122, li_144, li_168, li_194, li_240, li_255, li_284, li_299, li_603, li_999, li_1200, li_1440, li_4095, li_4096, li_6030, li_16384, li_20160, pk_sub]
  · rw [if_neg c1, if_neg c1]
    simp (maxSteps := 3000000) (disch := first | assumption | omega | exact hR.all _) only [bO_v, bR_v, bX_l, bX_r, bC_l, bC_r, aJ_v, aLet_v, nI_add, pk_mul, dvI_n, rmI_n, iMax_n, iMin_n, zO_0, zO_1, li_0, li_1, li_2, li_3, li_4, li_5, li_6, li_7, li_8, li_9, li_10, li_12, li_14, li_15, li_16, li_18, li_19, li_20, li_22, li_23, li_24, li_26, li_29, li_30, li_31, li_32, li_36, li_38, li_48, li_50, li_57, li_58, li_59, li_60, li_63, li_97, li_99, li_120, li_122, li_144, li_168, li_194, li_240, li_255, li_284, li_299, li_603, li_999, li_1200, li_1440, li_4095, li_4096, li_6030, li_16384, li_20160, pk_sub]
theorem k_minutesIn {s t : Nat} (hS : Sh h) (hP : P ∈ plL) (x : PlR h P T) (hD : PlD T) (hs : s ≤ t) (ht : t < 1000000) : m_X5_minutesIn (P + 1) (nI s) (nI t) h = some (nI (nm (T 418 0) (T 418 1) t - nm (T 418 0) (T 418 1) s), h) := by
  have q := nm_mono' (T 418 0) (T 418 1) hs
  simp (maxSteps := 3000000) (disch := first | assumption | omega | exact hR.all _) only [m_X5_minutesIn, bO_v, bR_v, bX_l, bX_r, bC_l, bC_r, aJ_v, aLet_v, nI_add, pk_mul, dvI_n, rmI_n, iMax_n, iMin_n, zO_0, zO_1, li_0, li_1, li_2, li_3, li_4, li_5, li_6, li_7, li_8, li_9, li_10, li_12, li_14, li_15, li_16, li_18, li_19, li_20, li_22, li_23, li_24, li_26, li_29, li_30, li_31, li_32, li_36, li_38, li_48, li_50, li_57, li_58, li_59, li_60, li_63, li_97, li_99, li_120, li_122, li_144, li_168, li_194, li_240, li_255, li_284, li_299, li_603, li_999, li_1200, li_1440, li_4095, li_4096, li_6030, li_16384, li_20160, p_cP_gi hS hP, p_cP_gL hS hP, p_cP_pi hS hP, p_cP_pL hS hP, p_cP_gS hS hP, p_cN_gi hS hP, p_cN_gL hS hP, p_cN_pi hS hP, p_cN_pL hS hP, p_cN_gS hS hP, p_cps_ln hS hP, p_ctr_al hS hP, p_ctr_as hS hP, p_ctr_ln hS hP, p_cgs_ln hS hP, p_ces_ln hS hP, p_cks_ln hS hP, p_cable_al hS hP, p_cable_as hS hP, p_cable_ln hS hP, p_pN hS hP, p_pps hS hP, p_ptr hS hP, p_pgs hS hP, p_pes hS hP, p_pks hS hP, p_pable hS hP, p_ep_al hS hP, p_ep_gi hS hP, p_ep_gL hS hP, p_ep_pi hS hP, p_ep_pL hS hP, p_ep_gS hS hP, p_eg_al hS hP, p_eg_gi hS hP, p_eg_gL hS hP, p_eg_pi hS hP, p_eg_pL hS hP, p_eg_gS hS hP, p_egr_p hS hP, p_egr_al hS hP, p_egr_as hS hP, p_egr_ln hS hP, p_ee_al hS hP, p_ee_gi hS hP, p_ee_gL hS hP, p_ee_pi hS hP, p_ee_pL hS hP, p_ee_gS hS hP, p_ees_p hS hP, p_ees_al hS hP, p_ees_as hS hP, p_ees_ln hS hP, p_eed_p hS hP, p_eed_al hS hP, p_eed_as hS hP, p_eed_ln hS hP, p_ek_al hS hP, p_ek_gi hS hP, p_ek_gL hS hP, p_ek_pi hS hP, p_ek_pL hS hP, p_ek_gS hS hP, p_ekg_p hS hP, p_ekg_al hS hP, p_ekg_as hS hP, p_ekg_ln hS hP, p_eke_p hS hP, p_eke_al hS hP, p_eke_as hS hP, p_eke_ln hS hP, k_minutesBefore hS hP x hD ht, k_minutesBefore hS hP x hD (t := s) (by omega), pk_sub]
end
