section
variable {h : aH} {a P : Nat} {T : Nat → Nat → Nat}
theorem k_isEngineOut' (hS : Sh h) (ha : a ∈ stL) {e t0 r : Nat} (he : e < 5) (e1 : h_iv h a 1 = nI t0) (e2 : h_iv h (a + 9) e = nI r) (ht : t0 < 2147483648) (hr : r < 2147483648) : m_X10_isEngineOut a (nI e) h = some (b2i (decide (t0 < r)), h) := by
  simp (maxSteps := 3000000) (disch := first | assumption | omega) only [m_X10_isEngineOut, bO_v, bR_v, bX_l, bX_r, bC_l, bC_r, aJ_v, aLet_v, nI_add, pk_mul, dvI_n, rmI_n, iMax_n, iMin_n, zO_0, zO_1, li_0, li_1, li_2, li_3, li_4, li_5, li_6, li_7, li_8, li_9, li_10, li_12, li_14, li_15, li_16, li_18, li_19, li_20, li_22, li_23, li_24, li_26, li_29, li_30, li_31, li_32, li_36, li_38, li_48, li_50, li_57, li_58, li_59, li_60, li_63, li_97, li_99, li_120, li_122, li_144, li_168, li_194, li_240, li_255, li_284, li_299, li_603, li_999, li_1200, li_1440, li_4095, li_4096, li_6030, li_16384, li_20160, s_cS_gi hS ha, s_cS_gL hS ha, s_cS_pi hS ha, s_cS_pL hS ha, s_cS_gS hS ha, s_clost_al hS ha, s_clost_as hS ha, s_clost_ln hS ha, s_cout_al hS ha, s_cout_as hS ha, s_cout_ln hS ha, s_cpaid_al hS ha, s_cpaid_as hS ha, s_cpaid_ln hS ha, s_ctrust_al hS ha, s_ctrust_as hS ha, s_ctrust_ln hS ha, s_crot_al hS ha, s_crot_as hS ha, s_crot_ln hS ha, s_chands_al hS ha, s_chands_as hS ha, s_chands_ln hS ha, s_cto_al hS ha, s_cto_as hS ha, s_cto_ln hS ha, s_cends_al hS ha, s_cends_as hS ha, s_cends_ln hS ha, s_cret_al hS ha, s_cret_as hS ha, s_cret_ln hS ha, s_ccrew_al hS ha, s_ccrew_as hS ha, s_ccrew_ln hS ha, s_cL_gi hS ha, s_cL_gL hS ha, s_cL_pi hS ha, s_cL_pL hS ha, s_cL_gS hS ha, s_clcosts_al hS ha, s_clcosts_as hS ha, s_clcosts_ln hS ha, s_clcomers_al hS ha, s_clcomers_as hS ha, s_clcomers_ln hS ha, s_clleavers_al hS ha, s_clleavers_as hS ha, s_clleavers_ln hS ha, s_clengs_al hS ha, s_clengs_as hS ha, s_clengs_ln hS ha, s_cltimes_al hS ha, s_cltimes_as hS ha, s_cltimes_ln hS ha, s_clcrews_al hS ha, s_clcrews_as hS ha, s_clcrews_ln hS ha, s_cbest_al hS ha, s_cbest_as hS ha, s_cbest_ln hS ha, s_plost hS ha, s_pout hS ha, s_ppaid hS ha, s_ptrust hS ha, s_prot hS ha, s_phands hS ha, s_pto hS ha, s_pends hS ha, s_pret hS ha, s_pcrew hS ha, s_plog hS ha, s_plcosts hS ha, s_plcomers hS ha, s_plleavers hS ha, s_plengs hS ha, s_pltimes hS ha, s_plcrews hS ha, s_pbest hS ha, e1, e2, nI_leI]
  by_cases c : r ≤ t0
  · rw [if_pos c, b2i_f (decide_eq_false (by omega))]
  · rw [if_neg c, b2i_t (decide_eq_true (by omega))]
theorem k_advL74 (hS : Sh h) (ha : a ∈ stL) (hP : P ∈ plL) (pl : h_rv h a 0 = P) (y : PlR h P T) (hD : PlD T) {t0 s : Nat} {r c : Nat → Nat} {X : Nat → Nat → Nat} (e1 : h_iv h a 1 = nI t0) (e2 : ∀ e, e < T 412 10 → h_iv h (a + 9) e = nI (r e)) (e3 : ∀ e, e < T 412 10 → t0 < r e → h_iv h (a + 10) e = nI (c e)) (ht : t0 < 100000) (hs : s < 100000) (hr : ∀ e, r e < 2147483648) (hc : ∀ e, e < T 412 10 → c e < 2 ^ T 412 8) (hX : ∀ p q, X p q ≤ 9) (e4 : ∀ p q, p < T 412 8 → q < T 412 8 → h_iv h (a + 4) (p * 12 + q) = nI (X p q)) {k126 : Int32 → aH → Option (Int32 × aH)} {Q : Int32 → aH → Prop}
    (hk : ∀ h1, Fr (fun o => o = a + 4) h h1 → (∀ p q, p < T 412 8 → q < T 412 8 → h_iv h1 (a + 4) (p * 12 + q) = nI (grf (fun e => decide (t0 < r e ∧ r e ≤ s)) c p q (X p q) (T 412 10))) → OK (k126 (nI (fb_ct (fun e => decide (t0 < r e ∧ r e ≤ s)) (T 412 10))) h1) Q) : OK (aL2 (m_X10_advance_L74 a (nI s) k126) FU (nI 0) (nI 0) h) Q := by
  have d0 := hD.nP
  have d1 := hD.nE
  have a1 := st_in a ha
  have p1 := pl_in P hP
  refine aL2_run (R := fun o => OK o Q) (fun m s1 s2 h1 => ∃ i, i ≤ T 412 10 ∧ m = T 412 10 - i ∧ s2 = nI i ∧ s1 = nI (fb_ct (fun e => decide (t0 < r e ∧ r e ≤ s)) i) ∧ Fr (fun o => o = a + 4) h h1 ∧ ∀ p q, p < T 412 8 → q < T 412 8 → h_iv h1 (a + 4) (p * 12 + q) = nI (grf (fun e => decide (t0 < r e ∧ r e ≤ s)) c p q (X p q) i)) ⟨0, Nat.zero_le _, rfl, rfl, rfl, Fr.rf, e4⟩ (by omega) ?_
  rintro rec m s1 s2 h1 ⟨i, hi, rfl, rfl, rfl, hF, hA⟩ ih
  have hS1 := hF.sh hS
  have y1 := y.fr hF hD (fun o q1 q2 q3 => by omega)
  have pl1 : h_rv h1 a 0 = P := by rw [hF.rv]; exact pl
  have e0 : gr h1 10 a 0 = some P := gr_ok9 (s_cS hS1 ha) pl1 (pl_ne0 P hP)
  have g9 : ∀ p q n, grf (fun e => decide (t0 < r e ∧ r e ≤ s)) c p q (X p q) n ≤ 9 := fun p q n => by rw [grf_min (hX p q)]; omega
  by_cases hlt : i < T 412 10
  · have f1 : h_iv h1 a 1 = nI t0 := by rw [hF.iv (show ¬ a = a + 4 by omega)]; exact e1
    have f2 : h_iv h1 (a + 9) i = nI (r i) := by rw [hF.iv (show ¬ a + 9 = a + 4 by omega)]; exact e2 i hlt
    have b1 := hr i
    simp (maxSteps := 3000000) (disch := first | assumption | omega) only [m_X10_advance_L74, bO_v, bR_v, bX_l, bX_r, bC_l, bC_r, aJ_v, aLet_v, nI_add, pk_mul, dvI_n, rmI_n, iMax_n, iMin_n, zO_0, zO_1, li_0, li_1, li_2, li_3, li_4, li_5, li_6, li_7, li_8, li_9, li_10, li_12, li_14, li_15, li_16, li_18, li_19, li_20, li_22, li_23, li_24, li_26, li_29, li_30, li_31, li_32, li_36, li_38, li_48, li_50, li_57, li_58, li_59, li_60, li_63, li_97, li_99, li_120, li_122, li_144, li_168, li_194, li_240, li_255, li_284, li_299, li_603, li_999, li_1200, li_1440, li_4095, li_4096, li_6030, li_16384, li_20160, s_cS_gi hS1 ha, s_cS_gL hS1 ha, s_cS_pi hS1 ha, s_cS_pL hS1 ha, s_cS_gS hS1 ha, s_clost_al hS1 ha, s_clost_as hS1 ha, s_clost_ln hS1 ha, s_cout_al hS1 ha, s_cout_as hS1 ha, s_cout_ln hS1 ha, s_cpaid_al hS1 ha, s_cpaid_as hS1 ha, s_cpaid_ln hS1 ha, s_ctrust_al hS1 ha, s_ctrust_as hS1 ha, s_ctrust_ln hS1 ha, s_crot_al hS1 ha, s_crot_as hS1 ha, s_crot_ln hS1 ha, s_chands_al hS1 ha, s_chands_as hS1 ha, s_chands_ln hS1 ha, s_cto_al hS1 ha, s_cto_as hS1 ha, s_cto_ln hS1 ha, s_cends_al hS1 ha, s_cends_as hS1 ha, s_cends_ln hS1 ha, s_cret_al hS1 ha, s_cret_as hS1 ha, s_cret_ln hS1 ha, s_ccrew_al hS1 ha, s_ccrew_as hS1 ha, s_ccrew_ln hS1 ha, s_cL_gi hS1 ha, s_cL_gL hS1 ha, s_cL_pi hS1 ha, s_cL_pL hS1 ha, s_cL_gS hS1 ha, s_clcosts_al hS1 ha, s_clcosts_as hS1 ha, s_clcosts_ln hS1 ha, s_clcomers_al hS1 ha, s_clcomers_as hS1 ha, s_clcomers_ln hS1 ha, s_clleavers_al hS1 ha, s_clleavers_as hS1 ha, s_clleavers_ln hS1 ha, s_clengs_al hS1 ha, s_clengs_as hS1 ha, s_clengs_ln hS1 ha, s_cltimes_al hS1 ha, s_cltimes_as hS1 ha, s_cltimes_ln hS1 ha, s_clcrews_al hS1 ha, s_clcrews_as hS1 ha, s_clcrews_ln hS1 ha, s_cbest_al hS1 ha, s_cbest_as hS1 ha, s_cbest_ln hS1 ha, s_plost hS1 ha, s_pout hS1 ha, s_ppaid hS1 ha, s_ptrust hS1 ha, s_prot hS1 ha, s_phands hS1 ha, s_pto hS1 ha, s_pends hS1 ha, s_pret hS1 ha, s_pcrew hS1 ha, s_plog hS1 ha, s_plcosts hS1 ha, s_plcomers hS1 ha, s_plleavers hS1 ha, s_plengs hS1 ha, s_pltimes hS1 ha, s_plcrews hS1 ha, s_pbest hS1 ha, p_cP_gi hS1 hP, p_cP_gL hS1 hP, p_cP_pi hS1 hP, p_cP_pL hS1 hP, p_cP_gS hS1 hP, p_cN_gi hS1 hP, p_cN_gL hS1 hP, p_cN_pi hS1 hP, p_cN_pL hS1 hP, p_cN_gS hS1 hP, p_cps_ln hS1 hP, p_ctr_al hS1 hP, p_ctr_as hS1 hP, p_ctr_ln hS1 hP, p_cgs_ln hS1 hP, p_ces_ln hS1 hP, p_cks_ln hS1 hP, p_cable_al hS1 hP, p_cable_as hS1 hP, p_cable_ln hS1 hP, p_pN hS1 hP, p_pps hS1 hP, p_ptr hS1 hP, p_pgs hS1 hP, p_pes hS1 hP, p_pks hS1 hP, p_pable hS1 hP, p_ep_al hS1 hP, p_ep_gi hS1 hP, p_ep_gL hS1 hP, p_ep_pi hS1 hP, p_ep_pL hS1 hP, p_ep_gS hS1 hP, p_eg_al hS1 hP, p_eg_gi hS1 hP, p_eg_gL hS1 hP, p_eg_pi hS1 hP, p_eg_pL hS1 hP, p_eg_gS hS1 hP, p_egr_p hS1 hP, p_egr_al hS1 hP, p_egr_as hS1 hP, p_egr_ln hS1 hP, p_ee_al hS1 hP, p_ee_gi hS1 hP, p_ee_gL hS1 hP, p_ee_pi hS1 hP, p_ee_pL hS1 hP, p_ee_gS hS1 hP, p_ees_p hS1 hP, p_ees_al hS1 hP, p_ees_as hS1 hP, p_ees_ln hS1 hP, p_eed_p hS1 hP, p_eed_al hS1 hP, p_eed_as hS1 hP, p_eed_ln hS1 hP, p_ek_al hS1 hP, p_ek_gi hS1 hP, p_ek_gL hS1 hP, p_ek_pi hS1 hP, p_ek_pL hS1 hP, p_ek_gS hS1 hP, p_ekg_p hS1 hP, p_ekg_al hS1 hP, p_ekg_as hS1 hP, p_ekg_ln hS1 hP, p_eke_p hS1 hP, p_eke_al hS1 hP, p_eke_as hS1 hP, p_eke_ln hS1 hP, e0, y1.nE, nI_ltI, k_isEngineOut' hS1 ha (show i < 5 by omega) f1 f2 (by omega) b1, b2i_0, f2, nI_leI]
    rw [if_pos hlt]
    by_cases c1 : t0 < r i
    · rw [if_neg (by simp [c1])]
      by_cases c2 : r i ≤ s
      · rw [if_pos c2]
        have f3 : h_iv h1 (a + 10) i = nI (c i) := by rw [hF.iv (show ¬ a + 10 = a + 4 by omega)]; exact e3 i hlt c1
        simp (maxSteps := 3000000) (disch := first | assumption | omega) only [bO_v, bR_v, bX_l, bX_r, bC_l, bC_r, aJ_v, aLet_v, nI_add, pk_mul, dvI_n, rmI_n, iMax_n, iMin_n, zO_0, zO_1, li_0, li_1, li_2, li_3, li_4, li_5, li_6, li_7, li_8, li_9, li_10, li_12, li_14, li_15, li_16, li_18, li_19, li_20, li_22, li_23, li_24, li_26, li_29, li_30, li_31, li_32, li_36, li_38, li_48, li_50, li_57, li_58, li_59, li_60, li_63, li_97, li_99, li_120, li_122, li_144, li_168, li_194, li_240, li_255, li_284, li_299, li_603, li_999, li_1200, li_1440, li_4095, li_4096, li_6030, li_16384, li_20160, s_cS_gi hS1 ha, s_cS_gL hS1 ha, s_cS_pi hS1 ha, s_cS_pL hS1 ha, s_cS_gS hS1 ha, s_clost_al hS1 ha, s_clost_as hS1 ha, s_clost_ln hS1 ha, s_cout_al hS1 ha, s_cout_as hS1 ha, s_cout_ln hS1 ha, s_cpaid_al hS1 ha, s_cpaid_as hS1 ha, s_cpaid_ln hS1 ha, s_ctrust_al hS1 ha, s_ctrust_as hS1 ha, s_ctrust_ln hS1 ha, s_crot_al hS1 ha, s_crot_as hS1 ha, s_crot_ln hS1 ha, s_chands_al hS1 ha, s_chands_as hS1 ha, s_chands_ln hS1 ha, s_cto_al hS1 ha, s_cto_as hS1 ha, s_cto_ln hS1 ha, s_cends_al hS1 ha, s_cends_as hS1 ha, s_cends_ln hS1 ha, s_cret_al hS1 ha, s_cret_as hS1 ha, s_cret_ln hS1 ha, s_ccrew_al hS1 ha, s_ccrew_as hS1 ha, s_ccrew_ln hS1 ha, s_cL_gi hS1 ha, s_cL_gL hS1 ha, s_cL_pi hS1 ha, s_cL_pL hS1 ha, s_cL_gS hS1 ha, s_clcosts_al hS1 ha, s_clcosts_as hS1 ha, s_clcosts_ln hS1 ha, s_clcomers_al hS1 ha, s_clcomers_as hS1 ha, s_clcomers_ln hS1 ha, s_clleavers_al hS1 ha, s_clleavers_as hS1 ha, s_clleavers_ln hS1 ha, s_clengs_al hS1 ha, s_clengs_as hS1 ha, s_clengs_ln hS1 ha, s_cltimes_al hS1 ha, s_cltimes_as hS1 ha, s_cltimes_ln hS1 ha, s_clcrews_al hS1 ha, s_clcrews_as hS1 ha, s_clcrews_ln hS1 ha, s_cbest_al hS1 ha, s_cbest_as hS1 ha, s_cbest_ln hS1 ha, s_plost hS1 ha, s_pout hS1 ha, s_ppaid hS1 ha, s_ptrust hS1 ha, s_prot hS1 ha, s_phands hS1 ha, s_pto hS1 ha, s_pends hS1 ha, s_pret hS1 ha, s_pcrew hS1 ha, s_plog hS1 ha, s_plcosts hS1 ha, s_plcomers hS1 ha, s_plleavers hS1 ha, s_plengs hS1 ha, s_pltimes hS1 ha, s_plcrews hS1 ha, s_pbest hS1 ha, f3]
        refine ok_bR (k_grow hS1 ha d0 (hc i hlt) (fun p q => g9 p q i) hA) (fun _ h2 hh => ?_)
        refine ih _ _ _ _ (by omega) ⟨i + 1, hlt, rfl, rfl, by rw [fb_ct_succ, if_pos (decide_eq_true ⟨c1, c2⟩)], hF.trans hh.1, fun p q hp hq => ?_⟩
        rw [hh.2 p q hp hq, grf, if_pos (decide_eq_true ⟨c1, c2⟩)]
      · rw [if_neg c2]
        have c3 : ¬ decide (t0 < r i ∧ r i ≤ s) = true := by simp [c2]
        exact ih _ _ _ _ (by omega) ⟨i + 1, hlt, rfl, rfl, by rw [fb_ct_succ, if_neg c3]; rfl, hF, fun p q hp hq => by rw [hA p q hp hq, grf, if_neg c3]⟩
    · rw [if_pos (by simp [c1])]
      have c3 : ¬ decide (t0 < r i ∧ r i ≤ s) = true := by simp [c1]
      exact ih _ _ _ _ (by omega) ⟨i + 1, hlt, rfl, rfl, by rw [fb_ct_succ, if_neg c3]; rfl, hF, fun p q hp hq => by rw [hA p q hp hq, grf, if_neg c3]⟩
  · obtain rfl : i = T 412 10 := by omega
    simp (maxSteps := 3000000) (disch := first | assumption | omega) only [m_X10_advance_L74, bO_v, bR_v, bX_l, bX_r, bC_l, bC_r, aJ_v, aLet_v, nI_add, pk_mul, dvI_n, rmI_n, iMax_n, iMin_n, zO_0, zO_1, li_0, li_1, li_2, li_3, li_4, li_5, li_6, li_7, li_8, li_9, li_10, li_12, li_14, li_15, li_16, li_18, li_19, li_20, li_22, li_23, li_24, li_26, li_29, li_30, li_31, li_32, li_36, li_38, li_48, li_50, li_57, li_58, li_59, li_60, li_63, li_97, li_99, li_120, li_122, li_144, li_168, li_194, li_240, li_255, li_284, li_299, li_603, li_999, li_1200, li_1440, li_4095, li_4096, li_6030, li_16384, li_20160, s_cS_gi hS1 ha, s_cS_gL hS1 ha, s_cS_pi hS1 ha, s_cS_pL hS1 ha, s_cS_gS hS1 ha, s_clost_al hS1 ha, s_clost_as hS1 ha, s_clost_ln hS1 ha, s_cout_al hS1 ha, s_cout_as hS1 ha, s_cout_ln hS1 ha, s_cpaid_al hS1 ha, s_cpaid_as hS1 ha, s_cpaid_ln hS1 ha, s_ctrust_al hS1 ha, s_ctrust_as hS1 ha, s_ctrust_ln hS1 ha, s_crot_al hS1 ha, s_crot_as hS1 ha, s_crot_ln hS1 ha, s_chands_al hS1 ha, s_chands_as hS1 ha, s_chands_ln hS1 ha, s_cto_al hS1 ha, s_cto_as hS1 ha, s_cto_ln hS1 ha, s_cends_al hS1 ha, s_cends_as hS1 ha, s_cends_ln hS1 ha, s_cret_al hS1 ha, s_cret_as hS1 ha, s_cret_ln hS1 ha, s_ccrew_al hS1 ha, s_ccrew_as hS1 ha, s_ccrew_ln hS1 ha, s_cL_gi hS1 ha, s_cL_gL hS1 ha, s_cL_pi hS1 ha, s_cL_pL hS1 ha, s_cL_gS hS1 ha, s_clcosts_al hS1 ha, s_clcosts_as hS1 ha, s_clcosts_ln hS1 ha, s_clcomers_al hS1 ha, s_clcomers_as hS1 ha, s_clcomers_ln hS1 ha, s_clleavers_al hS1 ha, s_clleavers_as hS1 ha, s_clleavers_ln hS1 ha, s_clengs_al hS1 ha, s_clengs_as hS1 ha, s_clengs_ln hS1 ha, s_cltimes_al hS1 ha, s_cltimes_as hS1 ha, s_cltimes_ln hS1 ha, s_clcrews_al hS1 ha, s_clcrews_as hS1 ha, s_clcrews_ln hS1 ha, s_cbest_al hS1 ha, s_cbest_as hS1 ha, s_cbest_ln hS1 ha, s_plost hS1 ha, s_pout hS1 ha, s_ppaid hS1 ha, s_ptrust hS1 ha, s_prot hS1 ha, s_phands hS1 ha, s_pto hS1 ha, s_pends hS1 ha, s_pret hS1 ha, s_pcrew hS1 ha, s_plog hS1 ha, s_plcosts hS1 ha, s_plcomers hS1 ha, s_plleavers hS1 ha, s_plengs hS1 ha, s_pltimes hS1 ha, s_plcrews hS1 ha, s_pbest hS1 ha, p_cP_gi hS1 hP, p_cP_gL hS1 hP, p_cP_pi hS1 hP, p_cP_pL hS1 hP, p_cP_gS hS1 hP, p_cN_gi hS1 hP, p_cN_gL hS1 hP, p_cN_pi hS1 hP, p_cN_pL hS1 hP, p_cN_gS hS1 hP, p_cps_ln hS1 hP, p_ctr_al hS1 hP, p_ctr_as hS1 hP, p_ctr_ln hS1 hP, p_cgs_ln hS1 hP, p_ces_ln hS1 hP, p_cks_ln hS1 hP, p_cable_al hS1 hP, p_cable_as hS1 hP, p_cable_ln hS1 hP, p_pN hS1 hP, p_pps hS1 hP, p_ptr hS1 hP, p_pgs hS1 hP, p_pes hS1 hP, p_pks hS1 hP, p_pable hS1 hP, p_ep_al hS1 hP, p_ep_gi hS1 hP, p_ep_gL hS1 hP, p_ep_pi hS1 hP, p_ep_pL hS1 hP, p_ep_gS hS1 hP, p_eg_al hS1 hP, p_eg_gi hS1 hP, p_eg_gL hS1 hP, p_eg_pi hS1 hP, p_eg_pL hS1 hP, p_eg_gS hS1 hP, p_egr_p hS1 hP, p_egr_al hS1 hP, p_egr_as hS1 hP, p_egr_ln hS1 hP, p_ee_al hS1 hP, p_ee_gi hS1 hP, p_ee_gL hS1 hP, p_ee_pi hS1 hP, p_ee_pL hS1 hP, p_ee_gS hS1 hP, p_ees_p hS1 hP, p_ees_al hS1 hP, p_ees_as hS1 hP, p_ees_ln hS1 hP, p_eed_p hS1 hP, p_eed_al hS1 hP, p_eed_as hS1 hP, p_eed_ln hS1 hP, p_ek_al hS1 hP, p_ek_gi hS1 hP, p_ek_gL hS1 hP, p_ek_pi hS1 hP, p_ek_pL hS1 hP, p_ek_gS hS1 hP, p_ekg_p hS1 hP, p_ekg_al hS1 hP, p_ekg_as hS1 hP, p_ekg_ln hS1 hP, p_eke_p hS1 hP, p_eke_al hS1 hP, p_eke_as hS1 hP, p_eke_ln hS1 hP, e0, y1.nE, nI_ltI]
    rw [if_neg hlt]
    exact hk h1 hF hA
/-- the class's leap over k minutes is k minutes of the row -/
theorem k_advance (hS : Sh h) (ha : a ∈ stL) (hP : P ∈ plL) {S : Nat → Nat} (x : StR h a P T S) (y : PlR h P T) (hD : PlD T) (hR : RwD T S) {k : Nat} (hk : S 0 + k < 40000) :
    OK (m_X10_advance a (nI k) h) (fun r h1 => r = nI (rsum T S k) ∧ Fr (fun o => a ≤ o ∧ o < a + 18) h h1 ∧ StR h1 a P T (itS T S k)) := by
  have d0 := hD.nP
  have d1 := hD.nG
  have d2 := hD.nE
  have a1 := st_in a ha
  have p1 := pl_in P hP
  simp (maxSteps := 3000000) (disch := first | assumption | omega | exact hR.all _) only [m_X10_advance, bO_v, bR_v, bX_l, bX_r, bC_l, bC_r, aJ_v, aLet_v, nI_add, pk_mul, dvI_n, rmI_n, iMax_n, iMin_n, zO_0, zO_1, li_0, li_1, li_2, li_3, li_4, li_5, li_6, li_7, li_8, li_9, li_10, li_12, li_14, li_15, li_16, li_18, li_19, li_20, li_22, li_23, li_24, li_26, li_29, li_30, li_31, li_32, li_36, li_38, li_48, li_50, li_57, li_58, li_59, li_60, li_63, li_97, li_99, li_120, li_122, li_144, li_168, li_194, li_240, li_255, li_284, li_299, li_603, li_999, li_1200, li_1440, li_4095, li_4096, li_6030, li_16384, li_20160, s_cS_gi hS ha, s_cS_gL hS ha, s_cS_pi hS ha, s_cS_pL hS ha, s_cS_gS hS ha, s_clost_al hS ha, s_clost_as hS ha, s_clost_ln hS ha, s_cout_al hS ha, s_cout_as hS ha, s_cout_ln hS ha, s_cpaid_al hS ha, s_cpaid_as hS ha, s_cpaid_ln hS ha, s_ctrust_al hS ha, s_ctrust_as hS ha, s_ctrust_ln hS ha, s_crot_al hS ha, s_crot_as hS ha, s_crot_ln hS ha, s_chands_al hS ha, s_chands_as hS ha, s_chands_ln hS ha, s_cto_al hS ha, s_cto_as hS ha, s_cto_ln hS ha, s_cends_al hS ha, s_cends_as hS ha, s_cends_ln hS ha, s_cret_al hS ha, s_cret_as hS ha, s_cret_ln hS ha, s_ccrew_al hS ha, s_ccrew_as hS ha, s_ccrew_ln hS ha, s_cL_gi hS ha, s_cL_gL hS ha, s_cL_pi hS ha, s_cL_pL hS ha, s_cL_gS hS ha, s_clcosts_al hS ha, s_clcosts_as hS ha, s_clcosts_ln hS ha, s_clcomers_al hS ha, s_clcomers_as hS ha, s_clcomers_ln hS ha, s_clleavers_al hS ha, s_clleavers_as hS ha, s_clleavers_ln hS ha, s_clengs_al hS ha, s_clengs_as hS ha, s_clengs_ln hS ha, s_cltimes_al hS ha, s_cltimes_as hS ha, s_cltimes_ln hS ha, s_clcrews_al hS ha, s_clcrews_as hS ha, s_clcrews_ln hS ha, s_cbest_al hS ha, s_cbest_as hS ha, s_cbest_ln hS ha, s_plost hS ha, s_pout hS ha, s_ppaid hS ha, s_ptrust hS ha, s_prot hS ha, s_phands hS ha, s_pto hS ha, s_pends hS ha, s_pret hS ha, s_pcrew hS ha, s_plog hS ha, s_plcosts hS ha, s_plcomers hS ha, s_plleavers hS ha, s_plengs hS ha, s_pltimes hS ha, s_plcrews hS ha, s_pbest hS ha, x.tm]
  refine k_advL9 (R := fun o => OK o _) hS ha hP x.pl y hD (t0 := S 0) (s := S 0 + k) (u := fun p => S (14 + p)) (l := fun p => S (2 + p)) x.tm x.out x.lost (by omega) (by omega) (fun p hp => by have := hR.lost p hp; omega) (fun p hp => by have := hR.out p hp; omega) (fun h1 F1 A1 => ?_)
  have S1 := F1.sh hS
  have y1 := y.fr F1 hD (fun o q1 q2 q3 => by omega)
  have pl1 : h_rv h1 a 0 = P := by rw [F1.rv]; exact x.pl
  refine k_advL40 (R := fun o => OK o _) S1 ha hP pl1 y1 hD (s := S 0 + k) (n := fun g => S (194 + 15 * g + 8)) (E := fun g k => S (194 + 15 * g + 12 + k)) (by omega) hR.hn (fun g hg => by rw [F1.iv (show ¬ a + 6 = a + 1 by omega)]; exact x.hn g hg) (fun g hg j hj => by rw [F1.iv (show ¬ a + 8 = a + 1 by omega)]; exact x.en g hg j hj) (fun g j => hR.all _) (fun h2 F2 A2 => ?_)
  have S2 := F2.sh S1
  have y2 := y1.fr F2 hD (fun o q1 q2 q3 => by omega)
  have pl2 : h_rv h2 a 0 = P := by rw [F2.rv]; exact pl1
  have same : ∀ o, o ≠ a + 1 → o ≠ a + 6 → h_iv h2 o = h_iv h o := fun o q1 q2 => by rw [F2.iv q2, F1.iv q1]
  refine k_advL74 S2 ha hP pl2 y2 hD (t0 := S 0) (s := S 0 + k) (r := fun e => S (284 + 3 * e)) (c := fun e => S (284 + 3 * e + 2)) (X := fun p q => min 9 (S (50 + 12 * p + q))) (by rw [same a (by omega) (by omega)]; exact x.tm) (fun e he => by rw [same _ (by omega) (by omega)]; exact x.ret e he) (fun e he hq => by rw [same _ (by omega) (by omega)]; exact x.crew e he hq) (by omega) (by omega) (fun e => hR.all _) hR.crew (fun p q => by omega) (fun p q hp hq => by rw [same _ (by omega) (by omega), x.tr p hp q hq]; congr 1; have := hR.tr p hp q hq; omega) (fun h3 F3 A3 => ?_)
  have S3 := F3.sh S2
  simp (maxSteps := 3000000) (disch := first | assumption | omega | exact hR.all _) only [bO_v, bR_v, bX_l, bX_r, bC_l, bC_r, aJ_v, aLet_v, nI_add, pk_mul, dvI_n, rmI_n, iMax_n, iMin_n, zO_0, zO_1, li_0, li_1, li_2, li_3, li_4, li_5, li_6, li_7, li_8, li_9, li_10, li_12, li_14, li_15, li_16, li_18, li_19, li_20, li_22, li_23, li_24, li_26, li_29, li_30, li_31, li_32, li_36, li_38, li_48, li_50, li_57, li_58, li_59, li_60, li_63, li_97, li_99, li_120, li_122, li_144, li_168, li_194, li_240, li_255, li_284, li_299, li_603, li_999, li_1200, li_1440, li_4095, li_4096, li_6030, li_16384, li_20160, s_cS_gi S3 ha, s_cS_gL S3 ha, s_cS_pi S3 ha, s_cS_pL S3 ha, s_cS_gS S3 ha, s_clost_al S3 ha, s_clost_as S3 ha, s_clost_ln S3 ha, s_cout_al S3 ha, s_cout_as S3 ha, s_cout_ln S3 ha, s_cpaid_al S3 ha, s_cpaid_as S3 ha, s_cpaid_ln S3 ha, s_ctrust_al S3 ha, s_ctrust_as S3 ha, s_ctrust_ln S3 ha, s_crot_al S3 ha, s_crot_as S3 ha, s_crot_ln S3 ha, s_chands_al S3 ha, s_chands_as S3 ha, s_chands_ln S3 ha, s_cto_al S3 ha, s_cto_as S3 ha, s_cto_ln S3 ha, s_cends_al S3 ha, s_cends_as S3 ha, s_cends_ln S3 ha, s_cret_al S3 ha, s_cret_as S3 ha, s_cret_ln S3 ha, s_ccrew_al S3 ha, s_ccrew_as S3 ha, s_ccrew_ln S3 ha, s_cL_gi S3 ha, s_cL_gL S3 ha, s_cL_pi S3 ha, s_cL_pL S3 ha, s_cL_gS S3 ha, s_clcosts_al S3 ha, s_clcosts_as S3 ha, s_clcosts_ln S3 ha, s_clcomers_al S3 ha, s_clcomers_as S3 ha, s_clcomers_ln S3 ha, s_clleavers_al S3 ha, s_clleavers_as S3 ha, s_clleavers_ln S3 ha, s_clengs_al S3 ha, s_clengs_as S3 ha, s_clengs_ln S3 ha, s_cltimes_al S3 ha, s_cltimes_as S3 ha, s_cltimes_ln S3 ha, s_clcrews_al S3 ha, s_clcrews_as S3 ha, s_clcrews_ln S3 ha, s_cbest_al S3 ha, s_cbest_as S3 ha, s_cbest_ln S3 ha, s_plost S3 ha, s_pout S3 ha, s_ppaid S3 ha, s_ptrust S3 ha, s_prot S3 ha, s_phands S3 ha, s_pto S3 ha, s_pends S3 ha, s_pret S3 ha, s_pcrew S3 ha, s_plog S3 ha, s_plcosts S3 ha, s_plcomers S3 ha, s_plleavers S3 ha, s_plengs S3 ha, s_pltimes S3 ha, s_plcrews S3 ha, s_pbest S3 ha]
  have same3 : ∀ o, o ≠ a + 1 → o ≠ a + 6 → o ≠ a + 4 → h_iv h3 o = h_iv h o := fun o q1 q2 q3 => by rw [F3.iv q3, same o q1 q2]
  refine ok_ret ⟨?_, ?_, ?_⟩
  · rw [rsum_is hD hR k]
    congr 1
    exact fb_ct_cong (fun e _ => by rw [Bool.and_true])
  · exact ((F1.mono (fun o q => by omega)).trans (F2.mono (fun o q => by omega))).trans ((F3.mono (fun o q => by omega)).trans (Fr.si (by omega)))
  · have o1 : ∀ o, o ≠ a → o ≠ a + 1 → o ≠ a + 6 → o ≠ a + 4 → h_iv (h_si h3 a 1 (nI (S 0 + k))) o = h_iv h o := fun o q0 q1 q2 q3 => by
      rw [← same3 o q1 q2 q3]
      exact funext fun j => si_ne (by omega)
    have oa : ∀ j, j ≠ 1 → h_iv (h_si h3 a 1 (nI (S 0 + k))) a j = h_iv h a j := fun j hj => by rw [si_ne (by omega), same3 a (by omega) (by omega) (by omega)]
    have st : ∀ {j : Nat}, (j = 1 ∨ (14 ≤ j ∧ j < 50) ∨ (194 ≤ j ∧ j < 284 ∧ (j - 194) % 15 ≠ 8) ∨ (284 ≤ j ∧ j < 299 ∧ (j - 284) % 3 ≠ 2) ∨ 299 ≤ j) → itS T S k j = S j := fun h => it_st hD h k
    have hnle : ∀ g, g < T 412 9 → itS T S k (194 + 15 * g + 8) ≤ S (194 + 15 * g + 8) := fun g hg => by rw [it_hn hD hR hg]; exact lst_le _ _ _
    refine ⟨?_, ?_, ?_, ?_, ?_, ?_, ?_, ?_, ?_, ?_, ?_, ?_, ?_, ?_, ?_, ?_, ?_, ?_, ?_, ?_, ?_, ?_⟩
    · show h_rv h3 a 0 = P
      rw [F3.rv, pl2]
    · rw [si_at, it_tm]
    · intro p hp
      rw [si_ne (by omega), F3.iv (show ¬ a + 1 = a + 4 by omega), F2.iv (show ¬ a + 1 = a + 6 by omega), A1 p hp, it_lost hD hp, lostK_F]
    · intro p hp; rw [o1 _ (by omega) (by omega) (by omega) (by omega), st (by omega)]; exact x.out p hp
    · intro p hp; rw [o1 _ (by omega) (by omega) (by omega) (by omega), st (by omega)]; exact x.paid p hp
    · obtain ⟨X, x1, x2, x3, x4⟩ := x.exc
      exact ⟨X, by rw [oa _ (by decide)]; exact x1, x2, fun p hp => by rw [st (by omega)]; exact x3 p hp, x4⟩
    · intro p hp q hq
      rw [si_ne (by omega), A3 p q hp hq, it_tr hD hR hp hq k hk, grf_min (by omega)]
      have := hR.tr p hp q hq
      rw [show min 9 (S (50 + 12 * p + q)) = S (50 + 12 * p + q) by omega]
      rfl
    · intro g hg q hq
      have := hD.plc g hg
      rw [o1 _ (by omega) (by omega) (by omega) (by omega), st (by omega)]; exact x.rot g hg q hq
    · intro g hg
      rw [si_ne (by omega), F3.iv (show ¬ a + 6 = a + 4 by omega), A2 g hg, it_hn hD hR hg]
      rfl
    · intro g hg j hj
      have q1 := hnle g hg
      have q2 := hR.hn g hg
      rw [o1 _ (by omega) (by omega) (by omega) (by omega), st (by omega)]; exact x.to g hg j (by omega)
    · intro g hg j hj
      have q1 := hnle g hg
      have q2 := hR.hn g hg
      rw [o1 _ (by omega) (by omega) (by omega) (by omega), st (by omega)]; exact x.en g hg j (by omega)
    · intro e he; rw [o1 _ (by omega) (by omega) (by omega) (by omega), st (by omega)]; exact x.ret e he
    · intro e he hq
      rw [it_tm, st (j := 284 + 3 * e) (by omega)] at hq
      rw [o1 _ (by omega) (by omega) (by omega) (by omega), it_crew hD hR he k, if_pos hq]
      exact x.crew e he (by omega)
    · obtain ⟨X, x1, x2, x3, x4⟩ := x.srv
      exact ⟨X, by rw [oa _ (by decide)]; exact x1, x2, fun p hp => by rw [st (by omega)]; exact x3 p hp, x4⟩
    · rw [o1 _ (by omega) (by omega) (by omega) (by omega), st (by omega)]; exact x.many
    · intro c hc; rw [st (by omega)] at hc; rw [o1 _ (by omega) (by omega) (by omega) (by omega), st (by omega)]; exact x.cost c hc
    · obtain ⟨X, x1, x2, x3⟩ := x.ans
      exact ⟨X, by rw [o1 _ (by omega) (by omega) (by omega) (by omega)]; exact x1, x2, fun c hc => by rw [st (by omega)] at hc ⊢; exact x3 c hc⟩
    · intro c hc; rw [st (by omega)] at hc; rw [o1 _ (by omega) (by omega) (by omega) (by omega), st (by omega)]; exact x.came c hc
    · intro c hc; rw [st (by omega)] at hc; rw [o1 _ (by omega) (by omega) (by omega) (by omega), st (by omega)]; exact x.left c hc
    · intro c hc i hi; rw [st (by omega)] at hc hi; rw [o1 _ (by omega) (by omega) (by omega) (by omega), st (by omega)]; exact x.leng c hc i hi
    · intro c hc i hi; rw [st (by omega)] at hc hi; rw [o1 _ (by omega) (by omega) (by omega) (by omega), st (by omega)]; exact x.ltim c hc i hi
    · intro c hc i hi; rw [st (by omega)] at hc hi; rw [o1 _ (by omega) (by omega) (by omega) (by omega), st (by omega)]; exact x.lcrw c hc i hi
end
