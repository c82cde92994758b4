/-! hours until a call would be answered -/
theorem itS_add {T : Nat → Nat → Nat} {S : Nat → Nat} (a : Nat) : ∀ b, itS T (itS T S a) b = itS T S (a + b)
  | 0 => rfl
  | b + 1 => by
    show minS T (itS T (itS T S a) b) = minS T (itS T S (a + b))
    rw [itS_add a b]
theorem plF_w {T : Nat → Nat → Nat} {S S' : Nat → Nat} {k : Nat} : ∀ i, plF (setW T S') S k i = plF T S k i
  | 0 => rfl
  | i + 1 => by
    show ldf (plF (setW T S') S k i) (plC (setW T S') S k (plF (setW T S') S k i) i) = ldf (plF T S k i) (plC T S k (plF T S k i) i)
    rw [plF_w i]
    rfl
theorem plV_w {T : Nat → Nat → Nat} {S S' : Nat → Nat} {k : Nat} : ∀ i, plV (setW T S') S k i = plV T S k i
  | 0 => rfl
  | i + 1 => by
    rw [plV, plV, plV_w i, plF_w i]
    rfl
/-- whether a call would be answered -/
def awB (T : Nat → Nat → Nat) (S : Nat → Nat) (k : Nat) : Bool := decide (T 430 k ≤ plV T S k (T 433 k))
section
variable {h : aH} {T : Nat → Nat → Nat} {P Q : Nat}
theorem QF.cq {h1 : aH} (x : Cq 153 h h1) : QF 0 h h1 := by
  obtain ⟨x1, x2, x3, x4, x5, x6, x7⟩ := x
  exact ⟨by omega, by omega, by omega, fun o _ => ⟨by rw [x3], by rw [x4]⟩, fun o k _ hq => by rw [x6 o (fun q => hq (by unfold SQ; omega))], fun o k _ hq => x7 o k (fun q => hq (Or.inr q)), fun o k _ => by rw [x5]⟩
/-- answers, when the row is another one -/
theorem r_answersW (hS : Sh h) (z : RefR h T) (hD : PlD T) {h1 : aH} {S : Nat → Nat} (x : RW h h1 S) (hR : RwD T S) {k : Nat} (hk : k < T 412 11) : OK (m_X12_answers 412 (nI k) h1) (fun r h2 => r = b2i (awB T S k) ∧ Fx SCx h1 h2) := by
  have e := r_answers (T := setW T S) (x.1.sh hS) (x.ref z hR.all) hD (by rw [setW_w]; exact hR) (k := k) hk
  refine ok_mono e (fun r h2 q => ⟨?_, q.2⟩)
  have q1 := q.1
  rw [setW_w] at q1
  rw [q1]
  have e1 : setW T S 430 k = T 430 k := rfl
  have e2 : setW T S 433 k = T 433 k := rfl
  unfold awB
  rw [e1, e2, plV_w]
theorem q_hours (I : IV h T P Q) (k : Int32) : QQ h T P Q (m_L_hoursUntilAnswered 1 k 462 h) (m_X12_hoursUntilAnswered 412 k) := by
  have hS := I.sh
  have hD := I.D
  have hR := I.R
  have hP := I.hP
  have y := I.y
  have d0 := hD.nP
  have d1 := hD.nG
  have d2 := hD.nE
  have d3 := hD.nK
  have d4 := hR.tm
  have d5 := I.RB.2.2
  have ha : 134 ∈ stL := by decide
  have x := I.x
  have p8 : kpT T 412 8 = T 412 8 := kpT_pe.1
  have p9 : kpT T 412 9 = T 412 9 := kpT_pe.2.1
  have p10 : kpT T 412 10 = T 412 10 := kpT_pe.2.2.1
  cases c : inr k (T 412 11)
  · refine ⟨1, 0, by decide, cq_exc ?_ (by decide), fun h1 I1 => ?_⟩
    · simp (maxSteps := 3000000) (disch := first | assumption | omega | exact hR.all _) only [m_L_hoursUntilAnswered, m_X11_hoursUntilAnswered, bO_v, bR_v, bX_l, bX_r, bC_l, bC_r, aJ_v, aLet_v, nI_add, pk_mul, dvI_n, rmI_n, iMax_n, iMin_n, zO_0, zO_1, li_0, li_1, li_2, li_3, li_4, li_5, li_6, li_7, li_8, li_9, li_10, li_12, li_14, li_15, li_16, li_18, li_19, li_20, li_22, li_23, li_24, li_26, li_29, li_30, li_31, li_32, li_36, li_38, li_48, li_50, li_57, li_58, li_59, li_60, li_63, li_97, li_99, li_120, li_122, li_144, li_168, li_194, li_240, li_255, li_284, li_299, li_603, li_999, li_1200, li_1440, li_4095, li_4096, li_6030, li_16384, li_20160, zl0, zl1, zl2, zl3, zl4, ze01, ze02, ze03, ze04, ze10, ze12, ze13, ze14, ze20, ze21, ze23, ze24, ze30, ze31, ze32, ze34, ze40, ze41, ze42, ze43, zt0, zt1, zt2, zt3, zt4, zq0, zq1, zq2, zq3, zq4, it_t, it_f, Bool.true_eq_false, Bool.false_eq_true, na5, na4, na1441, na2, na10, sx_IOIA, sx_IOIS, sx_IONS, sx_IAIO, sx_IAIS, sx_IANS, sx_ISIO, sx_ISIA, sx_ISNS, sx_NSIO, sx_NSIA, sx_NSIS, c_cX_gS hS, c_cX_gi hS, c_pst hS, c_phi hS, c_cH_gS hS, c_pmu hS, s_cS_gi hS ha, s_cS_gL hS ha, s_cS_pi hS ha, s_cS_pL hS ha, s_cS_gS hS ha, s_clost_al hS ha, s_clost_as hS ha, s_clost_ln hS ha, s_cout_al hS ha, s_cout_as hS ha, s_cout_ln hS ha, s_cpaid_al hS ha, s_cpaid_as hS ha, s_cpaid_ln hS ha, s_ctrust_al hS ha, s_ctrust_as hS ha, s_ctrust_ln hS ha, s_crot_al hS ha, s_crot_as hS ha, s_crot_ln hS ha, s_chands_al hS ha, s_chands_as hS ha, s_chands_ln hS ha, s_cto_al hS ha, s_cto_as hS ha, s_cto_ln hS ha, s_cends_al hS ha, s_cends_as hS ha, s_cends_ln hS ha, s_cret_al hS ha, s_cret_as hS ha, s_cret_ln hS ha, s_ccrew_al hS ha, s_ccrew_as hS ha, s_ccrew_ln hS ha, s_cL_gi hS ha, s_cL_gL hS ha, s_cL_pi hS ha, s_cL_pL hS ha, s_cL_gS hS ha, s_clcosts_al hS ha, s_clcosts_as hS ha, s_clcosts_ln hS ha, s_clcomers_al hS ha, s_clcomers_as hS ha, s_clcomers_ln hS ha, s_clleavers_al hS ha, s_clleavers_as hS ha, s_clleavers_ln hS ha, s_clengs_al hS ha, s_clengs_as hS ha, s_clengs_ln hS ha, s_cltimes_al hS ha, s_cltimes_as hS ha, s_cltimes_ln hS ha, s_clcrews_al hS ha, s_clcrews_as hS ha, s_clcrews_ln hS ha, s_cbest_al hS ha, s_cbest_as hS ha, s_cbest_ln hS ha, s_plost hS ha, s_pout hS ha, s_ppaid hS ha, s_ptrust hS ha, s_prot hS ha, s_phands hS ha, s_pto hS ha, s_pends hS ha, s_pret hS ha, s_pcrew hS ha, s_plog hS ha, s_plcosts hS ha, s_plcomers hS ha, s_plleavers hS ha, s_plengs hS ha, s_pltimes hS ha, s_plcrews hS ha, s_pbest hS ha, p_cP_gi hS hP, p_cP_gL hS hP, p_cP_pi hS hP, p_cP_pL hS hP, p_cP_gS hS hP, p_cN_gi hS hP, p_cN_gL hS hP, p_cN_pi hS hP, p_cN_pL hS hP, p_cN_gS hS hP, p_cps_ln hS hP, p_ctr_al hS hP, p_ctr_as hS hP, p_ctr_ln hS hP, p_cgs_ln hS hP, p_ces_ln hS hP, p_cks_ln hS hP, p_cable_al hS hP, p_cable_as hS hP, p_cable_ln hS hP, p_pN hS hP, p_pps hS hP, p_ptr hS hP, p_pgs hS hP, p_pes hS hP, p_pks hS hP, p_pable hS hP, p_ep_al hS hP, p_ep_gi hS hP, p_ep_gL hS hP, p_ep_pi hS hP, p_ep_pL hS hP, p_ep_gS hS hP, p_eg_al hS hP, p_eg_gi hS hP, p_eg_gL hS hP, p_eg_pi hS hP, p_eg_pL hS hP, p_eg_gS hS hP, p_egr_p hS hP, p_egr_al hS hP, p_egr_as hS hP, p_egr_ln hS hP, p_ee_al hS hP, p_ee_gi hS hP, p_ee_gL hS hP, p_ee_pi hS hP, p_ee_pL hS hP, p_ee_gS hS hP, p_ees_p hS hP, p_ees_al hS hP, p_ees_as hS hP, p_ees_ln hS hP, p_eed_p hS hP, p_eed_al hS hP, p_eed_as hS hP, p_eed_ln hS hP, p_ek_al hS hP, p_ek_gi hS hP, p_ek_gL hS hP, p_ek_pi hS hP, p_ek_pL hS hP, p_ek_gS hS hP, p_ekg_p hS hP, p_ekg_al hS hP, p_ekg_as hS hP, p_ekg_ln hS hP, p_eke_p hS hP, p_eke_al hS hP, p_eke_as hS hP, p_eke_ln hS hP, I.g3, b2i_0, I.needPerson, I.needPager, I.needEngine, I.needKind, I.needCall, I.needTwo, c]
    · have S1 := I1.sh
      refine rq_exc (w := nI 0) ?_ (by decide)
      simp (maxSteps := 3000000) (disch := first | assumption | omega | exact hR.all _) only [m_X12_hoursUntilAnswered, bO_v, bR_v, bX_l, bX_r, bC_l, bC_r, aJ_v, aLet_v, nI_add, pk_mul, dvI_n, rmI_n, iMax_n, iMin_n, zO_0, zO_1, li_0, li_1, li_2, li_3, li_4, li_5, li_6, li_7, li_8, li_9, li_10, li_12, li_14, li_15, li_16, li_18, li_19, li_20, li_22, li_23, li_24, li_26, li_29, li_30, li_31, li_32, li_36, li_38, li_48, li_50, li_57, li_58, li_59, li_60, li_63, li_97, li_99, li_120, li_122, li_144, li_168, li_194, li_240, li_255, li_284, li_299, li_603, li_999, li_1200, li_1440, li_4095, li_4096, li_6030, li_16384, li_20160, zl0, zl1, zl2, zl3, zl4, ze01, ze02, ze03, ze04, ze10, ze12, ze13, ze14, ze20, ze21, ze23, ze24, ze30, ze31, ze32, ze34, ze40, ze41, ze42, ze43, zt0, zt1, zt2, zt3, zt4, zq0, zq1, zq2, zq3, zq4, it_t, it_f, Bool.true_eq_false, Bool.false_eq_true, na5, na4, na1441, na2, na10, sx_IOIA, sx_IOIS, sx_IONS, sx_IAIO, sx_IAIS, sx_IANS, sx_ISIO, sx_ISIA, sx_ISNS, sx_NSIO, sx_NSIA, sx_NSIS, r_cM_gS S1, r_cM_pi S1, rz_gi S1, r_p413 S1, r_c413_al S1, r_isPerson S1 I1.z hD, r_isPager S1 I1.z hD, r_isKind S1 I1.z hD, r_isCouple S1 I1.z hD, b2i_0, nI_leI, c]
  · obtain ⟨k, hk, rfl⟩ := inr_t c (by omega)
    have h152 : 153 ∈ stL := by decide
    have fl := fa_first_le (fun i => awB T (itS T (T 413) (60 * i)) k) 49
    have fn := fa_first_no (fun i => awB T (itS T (T 413) (60 * i)) k) 49
    have fy := fa_first_yes (fun i => awB T (itS T (T 413) (60 * i)) k) 49
    generalize hF : fa_first (fun i => awB T (itS T (T 413) (60 * i)) k) 49 = F at *
    -- the class
    have CL : OK (m_X11_hoursUntilAnswered 1 (nI k) h) (fun r g => (F ≤ 48 ∧ r = .inl (nI F) ∧ QF 0 h g) ∨ (F = 49 ∧ r = .inr "java/util/NoSuchElementException" ∧ ∃ g0, g = h_exc g0 ∧ QF 0 h g0)) := by
      obtain ⟨_, h1, e1, S1, C1, x1⟩ := k_copyFrom hS ha h152 (by decide) hP x hD hR
      simp (maxSteps := 3000000) (disch := first | assumption | omega | exact hR.all _) only [m_X11_hoursUntilAnswered, bO_v, bR_v, bX_l, bX_r, bC_l, bC_r, aJ_v, aLet_v, nI_add, pk_mul, dvI_n, rmI_n, iMax_n, iMin_n, zO_0, zO_1, li_0, li_1, li_2, li_3, li_4, li_5, li_6, li_7, li_8, li_9, li_10, li_12, li_14, li_15, li_16, li_18, li_19, li_20, li_22, li_23, li_24, li_26, li_29, li_30, li_31, li_32, li_36, li_38, li_48, li_50, li_57, li_58, li_59, li_60, li_63, li_97, li_99, li_120, li_122, li_144, li_168, li_194, li_240, li_255, li_284, li_299, li_603, li_999, li_1200, li_1440, li_4095, li_4096, li_6030, li_16384, li_20160, zl0, zl1, zl2, zl3, zl4, ze01, ze02, ze03, ze04, ze10, ze12, ze13, ze14, ze20, ze21, ze23, ze24, ze30, ze31, ze32, ze34, ze40, ze41, ze42, ze43, zt0, zt1, zt2, zt3, zt4, zq0, zq1, zq2, zq3, zq4, it_t, it_f, Bool.true_eq_false, Bool.false_eq_true, na5, na4, na1441, na2, na10, sx_IOIA, sx_IOIS, sx_IONS, sx_IAIO, sx_IAIS, sx_IANS, sx_ISIO, sx_ISIA, sx_ISNS, sx_NSIO, sx_NSIA, sx_NSIS, c_cX_gS hS, I.needKind, c, c_pdr hS, c_pst hS, s_cS_gS hS h152, e1]
      refine aL1_run (R := fun o => OK o _) (fun m s1 g => ∃ i, i ≤ F ∧ i ≤ 49 ∧ m = 49 - i ∧ s1 = nI i ∧ QF 0 h g ∧ StR g 153 P T (itS T (T 413) (60 * i))) ⟨0, Nat.zero_le _, by decide, rfl, rfl, QF.cq C1, x1⟩ (by omega) ?_
      rintro rec m s1 g ⟨i, hi, hi2, rfl, rfl, Q1, xg⟩ ih
      have Ig := I.go Q1
      have Sg := Ig.sh
      have Rg := it_R hD hR (60 * i) (by omega)
      by_cases hlt : i ≤ 48
      · obtain ⟨r, g2, ef, er, MF, -, -, -⟩ := k_foresee Sg h152 hP xg Ig.y hD Rg hk
        have S2 := MF.sh Sg
        have Q2 := Q1.trans (QF.mu MF)
        have I2 := I.go Q2
        have x2 : StR g2 153 P T (itS T (T 413) (60 * i)) := xg.keep (fun o q1 q2 => funext fun j => MF.2.2.2.2.2.1 o j (by unfold MUx; omega)) (MF.2.2.2.2.2.2 _ _ (by omega))
        have er2 : r = b2i (awB T (itS T (T 413) (60 * i)) k) := er
        rw [er2] at ef
        simp (maxSteps := 3000000) (disch := first | assumption | omega | exact hR.all _) only [m_X11_hoursUntilAnswered_L18, bO_v, bR_v, bX_l, bX_r, bC_l, bC_r, aLet_v, nI_add, pk_mul, dvI_n, rmI_n, iMax_n, iMin_n, zO_0, zO_1, li_0, li_1, li_2, li_3, li_4, li_5, li_6, li_7, li_8, li_9, li_10, li_12, li_14, li_15, li_16, li_18, li_19, li_20, li_22, li_23, li_24, li_26, li_29, li_30, li_31, li_32, li_36, li_38, li_48, li_50, li_57, li_58, li_59, li_60, li_63, li_97, li_99, li_120, li_122, li_144, li_168, li_194, li_240, li_255, li_284, li_299, li_603, li_999, li_1200, li_1440, li_4095, li_4096, li_6030, li_16384, li_20160, zl0, zl1, zl2, zl3, zl4, ze01, ze02, ze03, ze04, ze10, ze12, ze13, ze14, ze20, ze21, ze23, ze24, ze30, ze31, ze32, ze34, ze40, ze41, ze42, ze43, zt0, zt1, zt2, zt3, zt4, zq0, zq1, zq2, zq3, zq4, it_t, it_f, Bool.true_eq_false, Bool.false_eq_true, na5, na4, na1441, na2, na10, sx_IOIA, sx_IOIS, sx_IONS, sx_IAIO, sx_IAIS, sx_IANS, sx_ISIO, sx_ISIA, sx_ISNS, sx_NSIO, sx_NSIA, sx_NSIS, c_pmu Sg, c_pdr Sg, Ig.g3, p_pks Sg hP, p_ek_al Sg hP, c_cU_gS Sg, ef, nI_leI, b2i_0]
        rw [if_pos hlt]
        cases ca : awB T (itS T (T 413) (60 * i)) k
        · rw [if_pos rfl]
          have ne : i ≠ F := fun e => by
            have := fy (by omega)
            rw [← e] at this
            simp only [ca] at this
            cases this
          simp (maxSteps := 3000000) (disch := first | assumption | omega | exact hR.all _) only [bO_v, bR_v, bX_l, bX_r, bC_l, bC_r, aLet_v, nI_add, pk_mul, dvI_n, rmI_n, iMax_n, iMin_n, zO_0, zO_1, li_0, li_1, li_2, li_3, li_4, li_5, li_6, li_7, li_8, li_9, li_10, li_12, li_14, li_15, li_16, li_18, li_19, li_20, li_22, li_23, li_24, li_26, li_29, li_30, li_31, li_32, li_36, li_38, li_48, li_50, li_57, li_58, li_59, li_60, li_63, li_97, li_99, li_120, li_122, li_144, li_168, li_194, li_240, li_255, li_284, li_299, li_603, li_999, li_1200, li_1440, li_4095, li_4096, li_6030, li_16384, li_20160, zl0, zl1, zl2, zl3, zl4, ze01, ze02, ze03, ze04, ze10, ze12, ze13, ze14, ze20, ze21, ze23, ze24, ze30, ze31, ze32, ze34, ze40, ze41, ze42, ze43, zt0, zt1, zt2, zt3, zt4, zq0, zq1, zq2, zq3, zq4, it_t, it_f, Bool.true_eq_false, Bool.false_eq_true, na5, na4, na1441, na2, na10, sx_IOIA, sx_IOIS, sx_IONS, sx_IAIO, sx_IAIS, sx_IANS, sx_ISIO, sx_ISIA, sx_ISNS, sx_NSIO, sx_NSIA, sx_NSIS, c_pdr S2, s_cS_gS S2 h152]
          have tm : itS T (T 413) (60 * i) 0 = T 413 0 + 60 * i := it_tm _
          refine ok_bR (k_advance S2 h152 hP x2 I2.y hD Rg (k := 60) (by omega)) (fun r3 g3 hh => ?_)
          obtain ⟨-, F3, x3⟩ := hh
          rw [itS_add] at x3
          exact ih _ _ _ (by omega) ⟨i + 1, by omega, by omega, rfl, rfl, Q2.trans (QF.fr F3 (fun o q j => by unfold SQ; omega)), x3⟩
        · rw [if_neg (by decide)]
          have e : i = F := by
            by_cases e : i = F
            · exact e
            · have := fn i (by omega)
              simp only [ca] at this
              cases this
          rw [← e]
          exact ok_ret (Or.inl ⟨hlt, rfl, Q2⟩)
      · obtain rfl : i = 49 := by omega
        simp (maxSteps := 3000000) (disch := first | assumption | omega | exact hR.all _) only [m_X11_hoursUntilAnswered_L18, bO_v, bR_v, bX_l, bX_r, bC_l, bC_r, aLet_v, nI_add, pk_mul, dvI_n, rmI_n, iMax_n, iMin_n, zO_0, zO_1, li_0, li_1, li_2, li_3, li_4, li_5, li_6, li_7, li_8, li_9, li_10, li_12, li_14, li_15, li_16, li_18, li_19, li_20, li_22, li_23, li_24, li_26, li_29, li_30, li_31, li_32, li_36, li_38, li_48, li_50, li_57, li_58, li_59, li_60, li_63, li_97, li_99, li_120, li_122, li_144, li_168, li_194, li_240, li_255, li_284, li_299, li_603, li_999, li_1200, li_1440, li_4095, li_4096, li_6030, li_16384, li_20160, zl0, zl1, zl2, zl3, zl4, ze01, ze02, ze03, ze04, ze10, ze12, ze13, ze14, ze20, ze21, ze23, ze24, ze30, ze31, ze32, ze34, ze40, ze41, ze42, ze43, zt0, zt1, zt2, zt3, zt4, zq0, zq1, zq2, zq3, zq4, it_t, it_f, Bool.true_eq_false, Bool.false_eq_true, na5, na4, na1441, na2, na10, sx_IOIA, sx_IOIS, sx_IONS, sx_IAIO, sx_IAIS, sx_IANS, sx_ISIO, sx_ISIA, sx_ISNS, sx_NSIO, sx_NSIA, sx_NSIS, nI_leI]
        rw [if_neg (by decide)]
        exact ok_ret (Or.inr ⟨by omega, rfl, g, rfl, Q1⟩)
    -- the reference
    have RL : ∀ h1, IV h1 T P Q → RQ h1 (m_X12_hoursUntilAnswered 412 (nI k) h1) (if F ≤ 48 then 0 else 2) (nI F) := fun h1 I1 => by
      have S1 := I1.sh
      have S0 : Sh (h_si h1 412 0 (nI 0)) := S1.si _ _ _
      have z0 : RefR (h_si h1 412 0 (nI 0)) T := I1.z.rz
      have G : QF 0 h1 (h_si h1 412 0 (nI 0)) := QF.si (by unfold SQ; omega)
      have GL : h_lv (h_si h1 412 0 (nI 0)) = h_lv h1 := rfl
      unfold RQ
      have post : ∀ (v : Int32) (hh : aH), QF 0 h1 hh → h_lv hh = h_lv h1 → h_iv hh 412 0 = nI (if F ≤ 48 then 0 else 2) → (F ≤ 48 → v = nI F) → QF 0 h1 hh ∧ h_lv hh = h_lv h1 ∧ h_iv hh 412 0 = nI (if F ≤ 48 then 0 else 2) ∧ ((if F ≤ 48 then 0 else 2) = 0 → v = nI F) := fun v hh a1 a2 a3 a4 => ⟨a1, a2, a3, fun q => a4 (by
        by_cases c9 : F ≤ 48
        · exact c9
        · rw [if_neg c9] at q; cases q)⟩
      generalize hPost : (fun (r : Int32) (hh : aH) => QF 0 h1 hh ∧ h_lv hh = h_lv h1 ∧ h_iv hh 412 0 = nI (if F ≤ 48 then 0 else 2) ∧ ((if F ≤ 48 then 0 else 2) = 0 → r = nI F)) = Post
      simp (maxSteps := 3000000) (disch := first | assumption | omega | exact hR.all _) only [m_X12_hoursUntilAnswered, bO_v, bR_v, bX_l, bX_r, bC_l, bC_r, aLet_v, nI_add, pk_mul, dvI_n, rmI_n, iMax_n, iMin_n, zO_0, zO_1, li_0, li_1, li_2, li_3, li_4, li_5, li_6, li_7, li_8, li_9, li_10, li_12, li_14, li_15, li_16, li_18, li_19, li_20, li_22, li_23, li_24, li_26, li_29, li_30, li_31, li_32, li_36, li_38, li_48, li_50, li_57, li_58, li_59, li_60, li_63, li_97, li_99, li_120, li_122, li_144, li_168, li_194, li_240, li_255, li_284, li_299, li_603, li_999, li_1200, li_1440, li_4095, li_4096, li_6030, li_16384, li_20160, zl0, zl1, zl2, zl3, zl4, ze01, ze02, ze03, ze04, ze10, ze12, ze13, ze14, ze20, ze21, ze23, ze24, ze30, ze31, ze32, ze34, ze40, ze41, ze42, ze43, zt0, zt1, zt2, zt3, zt4, zq0, zq1, zq2, zq3, zq4, it_t, it_f, Bool.true_eq_false, Bool.false_eq_true, na5, na4, na1441, na2, na10, sx_IOIA, sx_IOIS, sx_IONS, sx_IAIO, sx_IAIS, sx_IANS, sx_ISIO, sx_ISIA, sx_ISNS, sx_NSIO, sx_NSIA, sx_NSIS, r_cM_gS S1, r_isKind S1 I1.z hD, r_cM_pi S1, rz_gi S1, b2i_0, nI_leI, c, r_cM_gS S0]
      rw [aJ_v]
      simp (maxSteps := 3000000) (disch := first | assumption | omega | exact hR.all _) only [bO_v, bR_v, bX_l, bX_r, bC_l, bC_r, aLet_v, nI_add, pk_mul, dvI_n, rmI_n, iMax_n, iMin_n, zO_0, zO_1, li_0, li_1, li_2, li_3, li_4, li_5, li_6, li_7, li_8, li_9, li_10, li_12, li_14, li_15, li_16, li_18, li_19, li_20, li_22, li_23, li_24, li_26, li_29, li_30, li_31, li_32, li_36, li_38, li_48, li_50, li_57, li_58, li_59, li_60, li_63, li_97, li_99, li_120, li_122, li_144, li_168, li_194, li_240, li_255, li_284, li_299, li_603, li_999, li_1200, li_1440, li_4095, li_4096, li_6030, li_16384, li_20160, zl0, zl1, zl2, zl3, zl4, ze01, ze02, ze03, ze04, ze10, ze12, ze13, ze14, ze20, ze21, ze23, ze24, ze30, ze31, ze32, ze34, ze40, ze41, ze42, ze43, zt0, zt1, zt2, zt3, zt4, zq0, zq1, zq2, zq3, zq4, it_t, it_f, Bool.true_eq_false, Bool.false_eq_true, na5, na4, na1441, na2, na10, sx_IOIA, sx_IOIS, sx_IONS, sx_IAIO, sx_IAIS, sx_IANS, sx_ISIO, sx_ISIA, sx_ISNS, sx_NSIO, sx_NSIA, sx_NSIS, r_cM_pi S1, rz_gi S1, nI_leI, r_cM_gS S0]
      generalize h_si h1 412 0 (nI 0) = h0 at S0 z0 G GL ⊢
      refine ok_bR (r_lays S0) (fun _ h2 hh => ?_)
      obtain ⟨F2, v2⟩ := hh
      have S2 := F2.sh S0
      have z2 := z0.fr F2 (fun o q1 q2 q3 => q3)
      have w2 : RW h2 h2 (itS T (T 413) (60 * 0)) := ⟨Fr.rf, z2.c413⟩
      simp only [r_cM_gS S2]
      have Ran : ∀ i g, i ≤ 48 → Fx (fun o k => o = 413 ∨ SCx o k) h2 g → (∀ j, h_iv g 413 j = nI (itS T (T 413) (60 * i) j)) → OK (m_X12_answers 412 (nI k) g) (fun r g2 => r = b2i (awB T (itS T (T 413) (60 * i)) k) ∧ Fx (fun o k => o = 413 ∨ SCx o k) h2 g2 ∧ ∀ j, h_iv g2 413 j = nI (itS T (T 413) (60 * i) j)) := fun i g hi Fg vg => by
        have Sg := Fg.sh S2
        have zg : RefR g (setW T (itS T (T 413) (60 * i))) := ⟨fun o k q => by
          by_cases e : o = 413
          · rw [e, setW_w]; exact vg k
          · rw [setW_n e, Fg.iv (fun q2 => by
              rcases q2 with q2 | q2
              · exact e q2
              · exact SCx_no o k q q2)]
            exact z2.1 o k q, fun o k => by
          by_cases e : o = 413
          · rw [e, setW_w]; exact (it_R hD hR (60 * i) (by omega)).all k
          · rw [setW_n e]; exact z2.2 o k⟩
        have ea := r_answersW (T := setW T (itS T (T 413) (60 * i))) Sg zg hD (h1 := g) (S := itS T (T 413) (60 * i)) ⟨Fr.rf, vg⟩ (it_R hD hR (60 * i) (by omega)) hk
        refine ok_mono ea (fun r g2 q => ⟨?_, Fg.trans (q.2.mono (fun o k q => Or.inr q)), fun j => by rw [q.2.iv (by unfold SCx; omega)]; exact vg j⟩)
        have q1 := q.1
        rw [q1]
        unfold awB
        rw [plV_w]
        rfl
      refine ok_bR (Ran 0 h2 (by decide) Fx.rf z2.c413) (fun r0 g0 hh => ?_)
      obtain ⟨rfl, Fg0, vg0⟩ := hh
      refine aJ_gen (R := fun o => OK o Post) (fun k81 hk81 => ?_)
      refine aL2_run (R := fun o => OK o Post) (fun m s1 s2 g => ∃ i, i ≤ 48 ∧ i ≤ F ∧ m = 48 - i ∧ s1 = nI i ∧ s2 = b2i (awB T (itS T (T 413) (60 * i)) k) ∧ Fx (fun o k => o = 413 ∨ SCx o k) h2 g ∧ ∀ j, h_iv g 413 j = nI (itS T (T 413) (60 * i) j)) ⟨0, by decide, Nat.zero_le _, rfl, rfl, rfl, Fg0, vg0⟩ (by omega) ?_
      rintro rec m s1 s2 g ⟨i, hi, hiF, rfl, rfl, rfl, Fg, vg⟩ ih
      have Sg := Fg.sh S2
      have fin : (awB T (itS T (T 413) (60 * i)) k = true ∨ i = 48) → OK (k81 (nI i) (b2i (awB T (itS T (T 413) (60 * i)) k)) g) Post := fun hst => by
        have tk : ∀ v, OK (m_X12_takes 412 g) (fun _ h9 => Sh h9 ∧ QF 0 h1 (h_si h9 412 0 (nI v)) ∧ h_lv h9 = h_lv h1) := fun v => by
          refine ok_mono (r_takes Sg) (fun _ h9 hh => ?_)
          obtain ⟨F9, v9⟩ := hh
          refine ⟨F9.sh Sg, (G.trans (d := 0) ?_).trans (d := 0) (QF.si (by unfold SQ; omega)), by rw [F9.lv, Fg.lv, F2.lv, GL]⟩
          have f : Fx (fun o k => o = 416 ∨ o = 413 ∨ SCx o k) h0 h9 := (F2.fx.mono (fun o k q => Or.inl q)).trans ((Fg.mono (fun o k q => Or.inr q)).trans (F9.fx.mono (fun o k q => Or.inr (Or.inl q))))
          obtain ⟨f1, f2, f3, f4, f5, f6, f7⟩ := f
          refine QF.fx (A := SQ) ⟨f1, f2, f3, f4, f5, f6, fun o k ho => ?_⟩ (fun _ _ q => q)
          by_cases e9 : o = 413
          · subst e9
            rw [v9 k]
            by_cases c9 : k < 603
            · rw [if_pos c9, Fg.iv (by unfold SCx; omega), v2 k c9]
            · rw [if_neg c9, vg k, it_st hD (by omega), z0.c413]
          · exact f7 o k (fun q => by
              rcases q with q | q | q
              · exact ho (by unfold SQ; omega)
              · exact e9 q
              · exact ho (SCx_q q))
        rw [hk81]
        simp (maxSteps := 3000000) (disch := first | assumption | omega | exact hR.all _) only [bO_v, bR_v, bX_l, bX_r, bC_l, bC_r, aLet_v, nI_add, pk_mul, dvI_n, rmI_n, iMax_n, iMin_n, zO_0, zO_1, li_0, li_1, li_2, li_3, li_4, li_5, li_6, li_7, li_8, li_9, li_10, li_12, li_14, li_15, li_16, li_18, li_19, li_20, li_22, li_23, li_24, li_26, li_29, li_30, li_31, li_32, li_36, li_38, li_48, li_50, li_57, li_58, li_59, li_60, li_63, li_97, li_99, li_120, li_122, li_144, li_168, li_194, li_240, li_255, li_284, li_299, li_603, li_999, li_1200, li_1440, li_4095, li_4096, li_6030, li_16384, li_20160, zl0, zl1, zl2, zl3, zl4, ze01, ze02, ze03, ze04, ze10, ze12, ze13, ze14, ze20, ze21, ze23, ze24, ze30, ze31, ze32, ze34, ze40, ze41, ze42, ze43, zt0, zt1, zt2, zt3, zt4, zq0, zq1, zq2, zq3, zq4, it_t, it_f, Bool.true_eq_false, Bool.false_eq_true, na5, na4, na1441, na2, na10, sx_IOIA, sx_IOIS, sx_IONS, sx_IAIO, sx_IAIS, sx_IANS, sx_ISIO, sx_ISIA, sx_ISNS, sx_NSIO, sx_NSIA, sx_NSIS, r_cM_gS Sg, b2i_0]
        cases ca : awB T (itS T (T 413) (60 * i)) k
        · have F49 : ¬ F ≤ 48 := fun q => by
            have i48 : i = 48 := by
              rcases hst with e | e
              · rw [ca] at e; cases e
              · exact e
            have := fy (by omega)
            rw [show F = i by omega] at this
            simp only [ca] at this
            cases this
          refine ok_bR (tk 2) (fun _ h9 hh => ?_)
          obtain ⟨S9, Q9, L9⟩ := hh
          simp (maxSteps := 3000000) (disch := first | assumption | omega | exact hR.all _) only [bO_v, bR_v, bX_l, bX_r, bC_l, bC_r, aLet_v, nI_add, pk_mul, dvI_n, rmI_n, iMax_n, iMin_n, zO_0, zO_1, li_0, li_1, li_2, li_3, li_4, li_5, li_6, li_7, li_8, li_9, li_10, li_12, li_14, li_15, li_16, li_18, li_19, li_20, li_22, li_23, li_24, li_26, li_29, li_30, li_31, li_32, li_36, li_38, li_48, li_50, li_57, li_58, li_59, li_60, li_63, li_97, li_99, li_120, li_122, li_144, li_168, li_194, li_240, li_255, li_284, li_299, li_603, li_999, li_1200, li_1440, li_4095, li_4096, li_6030, li_16384, li_20160, zl0, zl1, zl2, zl3, zl4, ze01, ze02, ze03, ze04, ze10, ze12, ze13, ze14, ze20, ze21, ze23, ze24, ze30, ze31, ze32, ze34, ze40, ze41, ze42, ze43, zt0, zt1, zt2, zt3, zt4, zq0, zq1, zq2, zq3, zq4, it_t, it_f, Bool.true_eq_false, Bool.false_eq_true, na5, na4, na1441, na2, na10, sx_IOIA, sx_IOIS, sx_IONS, sx_IAIO, sx_IAIS, sx_IANS, sx_ISIO, sx_ISIA, sx_ISNS, sx_NSIO, sx_NSIA, sx_NSIS, aJ_v, r_cM_pi S9]
          refine ok_ret ?_
          rw [← hPost]
          exact post _ _ Q9 L9 (by rw [if_neg F49, si_at]) (fun q => absurd q F49)
        · have e : i = F := by
            by_cases e : i = F
            · exact e
            · have := fn i (by omega)
              simp only [ca] at this
              cases this
          refine ok_bR (tk 0) (fun _ h9 hh => ?_)
          obtain ⟨S9, Q9, L9⟩ := hh
          simp (maxSteps := 3000000) (disch := first | assumption | omega | exact hR.all _) only [bO_v, bR_v, bX_l, bX_r, bC_l, bC_r, aLet_v, nI_add, pk_mul, dvI_n, rmI_n, iMax_n, iMin_n, zO_0, zO_1, li_0, li_1, li_2, li_3, li_4, li_5, li_6, li_7, li_8, li_9, li_10, li_12, li_14, li_15, li_16, li_18, li_19, li_20, li_22, li_23, li_24, li_26, li_29, li_30, li_31, li_32, li_36, li_38, li_48, li_50, li_57, li_58, li_59, li_60, li_63, li_97, li_99, li_120, li_122, li_144, li_168, li_194, li_240, li_255, li_284, li_299, li_603, li_999, li_1200, li_1440, li_4095, li_4096, li_6030, li_16384, li_20160, zl0, zl1, zl2, zl3, zl4, ze01, ze02, ze03, ze04, ze10, ze12, ze13, ze14, ze20, ze21, ze23, ze24, ze30, ze31, ze32, ze34, ze40, ze41, ze42, ze43, zt0, zt1, zt2, zt3, zt4, zq0, zq1, zq2, zq3, zq4, it_t, it_f, Bool.true_eq_false, Bool.false_eq_true, na5, na4, na1441, na2, na10, sx_IOIA, sx_IOIS, sx_IONS, sx_IAIO, sx_IAIS, sx_IANS, sx_ISIO, sx_ISIA, sx_ISNS, sx_NSIO, sx_NSIA, sx_NSIS, aJ_v, r_cM_pi S9]
          refine ok_ret ?_
          rw [← hPost]
          exact post _ _ Q9 L9 (by rw [if_pos (by omega), si_at]) (fun _ => by rw [e])
      by_cases ca : awB T (itS T (T 413) (60 * i)) k = false
      · by_cases c48 : i < 48
        · have f2 := fin
          simp (maxSteps := 3000000) (disch := first | assumption | omega | exact hR.all _) only [m_X12_hoursUntilAnswered_L38, bO_v, bR_v, bX_l, bX_r, bC_l, bC_r, aLet_v, nI_add, pk_mul, dvI_n, rmI_n, iMax_n, iMin_n, zO_0, zO_1, li_0, li_1, li_2, li_3, li_4, li_5, li_6, li_7, li_8, li_9, li_10, li_12, li_14, li_15, li_16, li_18, li_19, li_20, li_22, li_23, li_24, li_26, li_29, li_30, li_31, li_32, li_36, li_38, li_48, li_50, li_57, li_58, li_59, li_60, li_63, li_97, li_99, li_120, li_122, li_144, li_168, li_194, li_240, li_255, li_284, li_299, li_603, li_999, li_1200, li_1440, li_4095, li_4096, li_6030, li_16384, li_20160, zl0, zl1, zl2, zl3, zl4, ze01, ze02, ze03, ze04, ze10, ze12, ze13, ze14, ze20, ze21, ze23, ze24, ze30, ze31, ze32, ze34, ze40, ze41, ze42, ze43, zt0, zt1, zt2, zt3, zt4, zq0, zq1, zq2, zq3, zq4, it_t, it_f, Bool.true_eq_false, Bool.false_eq_true, na5, na4, na1441, na2, na10, sx_IOIA, sx_IOIS, sx_IONS, sx_IAIO, sx_IAIS, sx_IANS, sx_ISIO, sx_ISIA, sx_ISNS, sx_NSIO, sx_NSIA, sx_NSIS, b2i_0, ca, nI_ltI, c48]
          refine aJ_gen (R := fun o => OK o Post) (fun k69 hk69 => ?_)
          have ne : i ≠ F := fun e => by
            have := fy (by omega)
            rw [← e] at this
            simp only [ca] at this
            cases this
          refine aL1_run (R := fun o => OK o Post) (fun m s1 g3 => ∃ j, j ≤ 60 ∧ m = 60 - j ∧ s1 = nI j ∧ Fx (fun o k => o = 413 ∨ SCx o k) h2 g3 ∧ ∀ u, h_iv g3 413 u = nI (itS T (T 413) (60 * i + j) u)) ⟨0, Nat.zero_le _, rfl, rfl, Fg, vg⟩ (by omega) ?_
          rintro rec2 m s1 g3 ⟨j, hj, rfl, rfl, Fg3, vg3⟩ ih2
          have S3 := Fg3.sh S2
          by_cases hj2 : j < 60
          · have Rj := it_R hD hR (60 * i + j) (by omega)
            have zg : RefR g3 (setW T (itS T (T 413) (60 * i + j))) := ⟨fun o k q => by
              by_cases e : o = 413
              · rw [e, setW_w]; exact vg3 k
              · rw [setW_n e, Fg3.iv (fun q2 => by
                  rcases q2 with q2 | q2
                  · exact e q2
                  · exact SCx_no o k q q2)]
                exact z2.1 o k q, fun o k => by
              by_cases e : o = 413
              · rw [e, setW_w]; exact Rj.all k
              · rw [setW_n e]; exact z2.2 o k⟩
            simp (maxSteps := 3000000) (disch := first | assumption | omega | exact hR.all _) only [m_X12_hoursUntilAnswered_L51, bO_v, bR_v, bX_l, bX_r, bC_l, bC_r, aLet_v, nI_add, pk_mul, dvI_n, rmI_n, iMax_n, iMin_n, zO_0, zO_1, li_0, li_1, li_2, li_3, li_4, li_5, li_6, li_7, li_8, li_9, li_10, li_12, li_14, li_15, li_16, li_18, li_19, li_20, li_22, li_23, li_24, li_26, li_29, li_30, li_31, li_32, li_36, li_38, li_48, li_50, li_57, li_58, li_59, li_60, li_63, li_97, li_99, li_120, li_122, li_144, li_168, li_194, li_240, li_255, li_284, li_299, li_603, li_999, li_1200, li_1440, li_4095, li_4096, li_6030, li_16384, li_20160, zl0, zl1, zl2, zl3, zl4, ze01, ze02, ze03, ze04, ze10, ze12, ze13, ze14, ze20, ze21, ze23, ze24, ze30, ze31, ze32, ze34, ze40, ze41, ze42, ze43, zt0, zt1, zt2, zt3, zt4, zq0, zq1, zq2, zq3, zq4, it_t, it_f, Bool.true_eq_false, Bool.false_eq_true, na5, na4, na1441, na2, na10, sx_IOIA, sx_IOIS, sx_IONS, sx_IAIO, sx_IAIS, sx_IANS, sx_ISIO, sx_ISIA, sx_ISNS, sx_NSIO, sx_NSIA, sx_NSIS, r_cM_gS S3, nI_ltI]
            rw [if_pos hj2]
            refine ok_bR (r_minute (T := setW T (itS T (T 413) (60 * i + j))) (S := itS T (T 413) (60 * i + j)) S3 zg hD vg3 Rj) (fun r4 g4 hh => ?_)
            obtain ⟨-, -, w4⟩ := hh
            exact ih2 _ _ _ (by omega) ⟨j + 1, hj2, rfl, rfl, Fg3.trans (w4.1.fx.mono (fun o k q => Or.inl q)), w4.2⟩
          · obtain rfl : j = 60 := by omega
            rw [show 60 * i + 60 = 60 * (i + 1) by omega] at vg3
            simp (maxSteps := 3000000) (disch := first | assumption | omega | exact hR.all _) only [m_X12_hoursUntilAnswered_L51, bO_v, bR_v, bX_l, bX_r, bC_l, bC_r, aLet_v, nI_add, pk_mul, dvI_n, rmI_n, iMax_n, iMin_n, zO_0, zO_1, li_0, li_1, li_2, li_3, li_4, li_5, li_6, li_7, li_8, li_9, li_10, li_12, li_14, li_15, li_16, li_18, li_19, li_20, li_22, li_23, li_24, li_26, li_29, li_30, li_31, li_32, li_36, li_38, li_48, li_50, li_57, li_58, li_59, li_60, li_63, li_97, li_99, li_120, li_122, li_144, li_168, li_194, li_240, li_255, li_284, li_299, li_603, li_999, li_1200, li_1440, li_4095, li_4096, li_6030, li_16384, li_20160, zl0, zl1, zl2, zl3, zl4, ze01, ze02, ze03, ze04, ze10, ze12, ze13, ze14, ze20, ze21, ze23, ze24, ze30, ze31, ze32, ze34, ze40, ze41, ze42, ze43, zt0, zt1, zt2, zt3, zt4, zq0, zq1, zq2, zq3, zq4, it_t, it_f, Bool.true_eq_false, Bool.false_eq_true, na5, na4, na1441, na2, na10, sx_IOIA, sx_IOIS, sx_IONS, sx_IAIO, sx_IAIS, sx_IANS, sx_ISIO, sx_ISIA, sx_ISNS, sx_NSIO, sx_NSIA, sx_NSIS, nI_ltI]
            rw [if_neg hj2, hk69]
            simp (maxSteps := 3000000) (disch := first | assumption | omega | exact hR.all _) only [bO_v, bR_v, bX_l, bX_r, bC_l, bC_r, aLet_v, nI_add, pk_mul, dvI_n, rmI_n, iMax_n, iMin_n, zO_0, zO_1, li_0, li_1, li_2, li_3, li_4, li_5, li_6, li_7, li_8, li_9, li_10, li_12, li_14, li_15, li_16, li_18, li_19, li_20, li_22, li_23, li_24, li_26, li_29, li_30, li_31, li_32, li_36, li_38, li_48, li_50, li_57, li_58, li_59, li_60, li_63, li_97, li_99, li_120, li_122, li_144, li_168, li_194, li_240, li_255, li_284, li_299, li_603, li_999, li_1200, li_1440, li_4095, li_4096, li_6030, li_16384, li_20160, zl0, zl1, zl2, zl3, zl4, ze01, ze02, ze03, ze04, ze10, ze12, ze13, ze14, ze20, ze21, ze23, ze24, ze30, ze31, ze32, ze34, ze40, ze41, ze42, ze43, zt0, zt1, zt2, zt3, zt4, zq0, zq1, zq2, zq3, zq4, it_t, it_f, Bool.true_eq_false, Bool.false_eq_true, na5, na4, na1441, na2, na10, sx_IOIA, sx_IOIS, sx_IONS, sx_IAIO, sx_IAIS, sx_IANS, sx_ISIO, sx_ISIA, sx_ISNS, sx_NSIO, sx_NSIA, sx_NSIS, r_cM_gS S3]
            refine ok_bR (Ran (i + 1) g3 (by omega) Fg3 vg3) (fun r4 g4 hh => ?_)
            obtain ⟨rfl, Fg4, vg4⟩ := hh
            exact ih _ _ _ _ (by omega) ⟨i + 1, by omega, by omega, rfl, rfl, rfl, Fg4, vg4⟩
        · have f2 := fin (Or.inr (by omega))
          rw [ca] at f2
          simp (maxSteps := 3000000) (disch := first | assumption | omega | exact hR.all _) only [m_X12_hoursUntilAnswered_L38, bO_v, bR_v, bX_l, bX_r, bC_l, bC_r, aLet_v, nI_add, pk_mul, dvI_n, rmI_n, iMax_n, iMin_n, zO_0, zO_1, li_0, li_1, li_2, li_3, li_4, li_5, li_6, li_7, li_8, li_9, li_10, li_12, li_14, li_15, li_16, li_18, li_19, li_20, li_22, li_23, li_24, li_26, li_29, li_30, li_31, li_32, li_36, li_38, li_48, li_50, li_57, li_58, li_59, li_60, li_63, li_97, li_99, li_120, li_122, li_144, li_168, li_194, li_240, li_255, li_284, li_299, li_603, li_999, li_1200, li_1440, li_4095, li_4096, li_6030, li_16384, li_20160, zl0, zl1, zl2, zl3, zl4, ze01, ze02, ze03, ze04, ze10, ze12, ze13, ze14, ze20, ze21, ze23, ze24, ze30, ze31, ze32, ze34, ze40, ze41, ze42, ze43, zt0, zt1, zt2, zt3, zt4, zq0, zq1, zq2, zq3, zq4, it_t, it_f, Bool.true_eq_false, Bool.false_eq_true, na5, na4, na1441, na2, na10, sx_IOIA, sx_IOIS, sx_IONS, sx_IAIO, sx_IAIS, sx_IANS, sx_ISIO, sx_ISIA, sx_ISNS, sx_NSIO, sx_NSIA, sx_NSIS, b2i_0, ca, nI_ltI, c48]
          exact f2
      · have ct : awB T (itS T (T 413) (60 * i)) k = true := by simpa using ca
        have f2 := fin (Or.inl ct)
        rw [ct] at f2
        simp (maxSteps := 3000000) (disch := first | assumption | omega | exact hR.all _) only [m_X12_hoursUntilAnswered_L38, bO_v, bR_v, bX_l, bX_r, bC_l, bC_r, aLet_v, nI_add, pk_mul, dvI_n, rmI_n, iMax_n, iMin_n, zO_0, zO_1, li_0, li_1, li_2, li_3, li_4, li_5, li_6, li_7, li_8, li_9, li_10, li_12, li_14, li_15, li_16, li_18, li_19, li_20, li_22, li_23, li_24, li_26, li_29, li_30, li_31, li_32, li_36, li_38, li_48, li_50, li_57, li_58, li_59, li_60, li_63, li_97, li_99, li_120, li_122, li_144, li_168, li_194, li_240, li_255, li_284, li_299, li_603, li_999, li_1200, li_1440, li_4095, li_4096, li_6030, li_16384, li_20160, zl0, zl1, zl2, zl3, zl4, ze01, ze02, ze03, ze04, ze10, ze12, ze13, ze14, ze20, ze21, ze23, ze24, ze30, ze31, ze32, ze34, ze40, ze41, ze42, ze43, zt0, zt1, zt2, zt3, zt4, zq0, zq1, zq2, zq3, zq4, it_t, it_f, Bool.true_eq_false, Bool.false_eq_true, na5, na4, na1441, na2, na10, sx_IOIA, sx_IOIS, sx_IONS, sx_IAIO, sx_IAIS, sx_IANS, sx_ISIO, sx_ISIA, sx_ISNS, sx_NSIO, sx_NSIA, sx_NSIS, b2i_0, ct]
        exact f2
    obtain ⟨r, g, eg, hr⟩ := CL
    refine ⟨if F ≤ 48 then 0 else 2, nI F, by split <;> decide, ?_, RL⟩
    rcases hr with ⟨c1, rfl, Q1⟩ | ⟨c1, rfl, g0, rfl, Q1⟩
    · rw [if_pos c1]
      have S9 := Q1.sh hS
      refine cq_val9 (g1 := g) ?_ Q1
      simp (maxSteps := 3000000) (disch := first | assumption | omega | exact hR.all _) only [m_L_hoursUntilAnswered, bO_v, bR_v, bX_l, bX_r, bC_l, bC_r, aJ_v, aLet_v, nI_add, pk_mul, dvI_n, rmI_n, iMax_n, iMin_n, zO_0, zO_1, li_0, li_1, li_2, li_3, li_4, li_5, li_6, li_7, li_8, li_9, li_10, li_12, li_14, li_15, li_16, li_18, li_19, li_20, li_22, li_23, li_24, li_26, li_29, li_30, li_31, li_32, li_36, li_38, li_48, li_50, li_57, li_58, li_59, li_60, li_63, li_97, li_99, li_120, li_122, li_144, li_168, li_194, li_240, li_255, li_284, li_299, li_603, li_999, li_1200, li_1440, li_4095, li_4096, li_6030, li_16384, li_20160, zl0, zl1, zl2, zl3, zl4, ze01, ze02, ze03, ze04, ze10, ze12, ze13, ze14, ze20, ze21, ze23, ze24, ze30, ze31, ze32, ze34, ze40, ze41, ze42, ze43, zt0, zt1, zt2, zt3, zt4, zq0, zq1, zq2, zq3, zq4, it_t, it_f, Bool.true_eq_false, Bool.false_eq_true, na5, na4, na1441, na2, na10, sx_IOIA, sx_IOIS, sx_IONS, sx_IAIO, sx_IAIS, sx_IANS, sx_ISIO, sx_ISIA, sx_ISNS, sx_NSIO, sx_NSIA, sx_NSIS, c_cX_gS hS, eg, c_co_as S9]
    · rw [if_neg (by omega)]
      refine cq_exc9 (g1 := g0) ?_ Q1 (by decide)
      simp (maxSteps := 3000000) (disch := first | assumption | omega | exact hR.all _) only [m_L_hoursUntilAnswered, bO_v, bR_v, bX_l, bX_r, bC_l, bC_r, aJ_v, aLet_v, nI_add, pk_mul, dvI_n, rmI_n, iMax_n, iMin_n, zO_0, zO_1, li_0, li_1, li_2, li_3, li_4, li_5, li_6, li_7, li_8, li_9, li_10, li_12, li_14, li_15, li_16, li_18, li_19, li_20, li_22, li_23, li_24, li_26, li_29, li_30, li_31, li_32, li_36, li_38, li_48, li_50, li_57, li_58, li_59, li_60, li_63, li_97, li_99, li_120, li_122, li_144, li_168, li_194, li_240, li_255, li_284, li_299, li_603, li_999, li_1200, li_1440, li_4095, li_4096, li_6030, li_16384, li_20160, zl0, zl1, zl2, zl3, zl4, ze01, ze02, ze03, ze04, ze10, ze12, ze13, ze14, ze20, ze21, ze23, ze24, ze30, ze31, ze32, ze34, ze40, ze41, ze42, ze43, zt0, zt1, zt2, zt3, zt4, zq0, zq1, zq2, zq3, zq4, it_t, it_f, Bool.true_eq_false, Bool.false_eq_true, na5, na4, na1441, na2, na10, sx_IOIA, sx_IOIS, sx_IONS, sx_IAIO, sx_IAIS, sx_IANS, sx_ISIO, sx_ISIA, sx_ISNS, sx_NSIO, sx_NSIA, sx_NSIS, c_cX_gS hS, eg]
end
