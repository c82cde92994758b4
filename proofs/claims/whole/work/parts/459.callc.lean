/-! a call: what the class does -/
theorem nI_dec {X : Nat} : nI (X + 1) + -nI 1 = nI X := by
  rw [← Int32.sub_eq_add_neg, pk_sub (by omega), Nat.add_sub_cancel]
def CF (a : Nat) (h h1 : aH) : Prop := Fr (fun o => a ≤ o ∧ o < a + 18) h h1
section
variable {h : aH} {a P : Nat} {T : Nat → Nat → Nat} {S R : Nat → Nat}
theorem CF.plan {h1 : aH} (F : CF a h h1) (ha : a ∈ stL) (hP : P ∈ plL) (y : PlR h P T) (hD : PlD T) : PlR h1 P T := by
  have p1 := pl_in P hP
  have a1 := st_in a ha
  exact y.keep (fun o q1 q2 => F.iv (by omega)) hD
theorem k_shiftDown (hS : Sh h) {p q X : Nat} (ha : a ∈ stL) (hp : p < 12) (hq : q < 12) (e : h_iv h (a + 4) (p * 12 + q) = nI X) (hX : X ≤ 9) : m_X10_shiftTrust a (nI p) (nI q) (-nI 1) h = some ((), if X = 0 then h else h_si h (a + 4) (p * 12 + q) (nI (X - 1))) := by
  simp (maxSteps := 3000000) (disch := first | assumption | omega) only [m_X10_shiftTrust, bO_v, bR_v, bX_l, bX_r, bC_l, bC_r, aJ_v, aLet_v, nI_add, pk_mul, dvI_n, rmI_n, iMax_n, iMin_n, zO_0, zO_1, li_0, li_1, li_2, li_3, li_4, li_5, li_6, li_7, li_8, li_9, li_10, li_12, li_14, li_15, li_16, li_18, li_19, li_20, li_22, li_23, li_24, li_26, li_29, li_30, li_31, li_32, li_36, li_38, li_48, li_50, li_57, li_58, li_59, li_60, li_63, li_97, li_99, li_120, li_122, li_144, li_168, li_194, li_240, li_255, li_284, li_299, li_603, li_999, li_1200, li_1440, li_4095, li_4096, li_6030, li_16384, li_20160, zl0, zl1, zl2, zl3, zl4, ze01, ze02, ze03, ze04, ze10, ze12, ze13, ze14, ze20, ze21, ze23, ze24, ze30, ze31, ze32, ze34, ze40, ze41, ze42, ze43, zt0, zt1, zt2, zt3, zt4, zq0, zq1, zq2, zq3, zq4, it_t, it_f, Bool.true_eq_false, Bool.false_eq_true, na5, na4, na1441, na2, na10, sx_IOIA, sx_IOIS, sx_IONS, sx_IAIO, sx_IAIS, sx_IANS, sx_ISIO, sx_ISIA, sx_ISNS, sx_NSIO, sx_NSIA, sx_NSIS, s_cS_gi hS ha, s_cS_gL hS ha, s_cS_pi hS ha, s_cS_pL hS ha, s_cS_gS hS ha, s_clost_al hS ha, s_clost_as hS ha, s_clost_ln hS ha, s_cout_al hS ha, s_cout_as hS ha, s_cout_ln hS ha, s_cpaid_al hS ha, s_cpaid_as hS ha, s_cpaid_ln hS ha, s_ctrust_al hS ha, s_ctrust_as hS ha, s_ctrust_ln hS ha, s_crot_al hS ha, s_crot_as hS ha, s_crot_ln hS ha, s_chands_al hS ha, s_chands_as hS ha, s_chands_ln hS ha, s_cto_al hS ha, s_cto_as hS ha, s_cto_ln hS ha, s_cends_al hS ha, s_cends_as hS ha, s_cends_ln hS ha, s_cret_al hS ha, s_cret_as hS ha, s_cret_ln hS ha, s_ccrew_al hS ha, s_ccrew_as hS ha, s_ccrew_ln hS ha, s_cL_gi hS ha, s_cL_gL hS ha, s_cL_pi hS ha, s_cL_pL hS ha, s_cL_gS hS ha, s_clcosts_al hS ha, s_clcosts_as hS ha, s_clcosts_ln hS ha, s_clcomers_al hS ha, s_clcomers_as hS ha, s_clcomers_ln hS ha, s_clleavers_al hS ha, s_clleavers_as hS ha, s_clleavers_ln hS ha, s_clengs_al hS ha, s_clengs_as hS ha, s_clengs_ln hS ha, s_cltimes_al hS ha, s_cltimes_as hS ha, s_cltimes_ln hS ha, s_clcrews_al hS ha, s_clcrews_as hS ha, s_clcrews_ln hS ha, s_cbest_al hS ha, s_cbest_as hS ha, s_cbest_ln hS ha, s_plost hS ha, s_pout hS ha, s_ppaid hS ha, s_ptrust hS ha, s_prot hS ha, s_phands hS ha, s_pto hS ha, s_pends hS ha, s_pret hS ha, s_pcrew hS ha, s_plog hS ha, s_plcosts hS ha, s_plcomers hS ha, s_plleavers hS ha, s_plengs hS ha, s_pltimes hS ha, s_plcrews hS ha, s_pbest hS ha, k_pair, e]
  cases X with
  | zero =>
    rw [if_pos rfl, if_pos (by decide)]
  | succ X =>
    rw [nI_dec, if_neg (nI_nlt (by omega) (by omega)), if_pos (by rw [nI_leI (by omega) (by omega)]; omega), Nat.add_sub_cancel, if_neg (Nat.succ_ne_zero X)]
theorem link_tl (e : ∀ j, (j < 50 ∨ 194 ≤ j) → R j = S j) (g k : Nat) : link T R g k = link T S g k := by
  unfold link own
  rw [e 0 (by omega), e _ (by omega), e _ (by omega)]
theorem absn_lt6 {k p : Nat} : absn T S k p < 6 := by unfold absn; (repeat' split) <;> omega
theorem k_loseTrust (hS : Sh h) (ha : a ∈ stL) (hP : P ∈ plL) (x : StR h a P T S) (y : PlR h P T) (hD : PlD T) (hR : RwD T S) {k : Nat} (hk : k < T 412 11) (sp : h_rv h 172 0 = a) (ab : ∀ p, p < T 412 8 → h_iv h 173 p = nI (absn T S k p)) :
    OK (m_X4_loseTrust 172 (P + 47 + 3 * k) h) (fun _ h1 => CF a h h1 ∧ StR h1 a P T (tlR T S k (T 431 k))) := by
  have a1 := st_in a ha
  have a2 := st_mu a ha
  have d0 := hD.nP
  have d1 := hD.nG
  have d3 := hD.nK
  have d4 := hD.kgn k hk
  simp only [m_X4_loseTrust]
  refine aJ_gen (R := fun o => OK o _) (fun k83 hk83 => ?_)
  refine aL1_run (R := fun o => OK o _) (fun m s1 h1 => ∃ i, i ≤ T 431 k ∧ m = T 431 k - i ∧ s1 = nI i ∧ CF a h h1 ∧ StR h1 a P T (tlR T S k i)) ⟨0, Nat.zero_le _, rfl, rfl, Fr.rf, x⟩ (by omega) ?_
  rintro rec m s1 h1 ⟨i, hi, rfl, rfl, F1, x1⟩ ih
  have S1 := F1.sh hS
  have y1 := F1.plan ha hP y hD
  have kn := y1.kgn k hk
  have sp1 : h_rv h1 172 0 = a := by rw [F1.rv]; exact sp
  have ms := k_mstate S1 ha sp1
  by_cases hlt : i < T 431 k
  · have hg := hD.kg k hk i hlt
    have kg := y1.kg k hk i hlt
    have eo : ∀ j, (j < 50 ∨ 194 ≤ j) → tlR T S k i j = S j := fun j hj => tlR_o hD hR hk hi hj
    have R1 := tlR_R hD hR hk hi
    have hn := hR.hn _ hg
    have en := x1.hn _ hg
    rw [eo _ (by omega)] at en
    obtain ⟨b1, b2⟩ := tl_lt hD hR hk hlt
    simp (maxSteps := 3000000) (disch := first | assumption | omega) only [m_X4_loseTrust_L2, bO_v, bR_v, bX_l, bX_r, bC_l, bC_r, aLet_v, nI_add, pk_mul, dvI_n, rmI_n, iMax_n, iMin_n, zO_0, zO_1, li_0, li_1, li_2, li_3, li_4, li_5, li_6, li_7, li_8, li_9, li_10, li_12, li_14, li_15, li_16, li_18, li_19, li_20, li_22, li_23, li_24, li_26, li_29, li_30, li_31, li_32, li_36, li_38, li_48, li_50, li_57, li_58, li_59, li_60, li_63, li_97, li_99, li_120, li_122, li_144, li_168, li_194, li_240, li_255, li_284, li_299, li_603, li_999, li_1200, li_1440, li_4095, li_4096, li_6030, li_16384, li_20160, zl0, zl1, zl2, zl3, zl4, ze01, ze02, ze03, ze04, ze10, ze12, ze13, ze14, ze20, ze21, ze23, ze24, ze30, ze31, ze32, ze34, ze40, ze41, ze42, ze43, zt0, zt1, zt2, zt3, zt4, zq0, zq1, zq2, zq3, zq4, it_t, it_f, Bool.true_eq_false, Bool.false_eq_true, na5, na4, na1441, na2, na10, sx_IOIA, sx_IOIS, sx_IONS, sx_IAIO, sx_IAIS, sx_IANS, sx_ISIO, sx_ISIA, sx_ISNS, sx_NSIO, sx_NSIA, sx_NSIS, p_ek_gi S1 hP, kn, nI_ltI, p_ekg_p S1 hP, p_ekg_al S1 hP, kg, ms, s_phands S1 ha, s_chands_al S1 ha, en, nI_leI]
    rw [if_pos hlt]
    refine aJ_gen (R := fun o => OK o _) (fun k77 hk77 => ?_)
    have done : ∀ h2, CF a h h2 → StR h2 a P T (tlR T S k (i + 1)) → OK (k77 h2) (fun _ h1 => CF a h h1 ∧ StR h1 a P T (tlR T S k (T 431 k))) := fun h2 F2 x2 => by
      rw [hk77]
      simp only [bO_v, bR_v, bX_l, bX_r, bC_l, bC_r, aLet_v, nI_add, pk_mul, dvI_n, rmI_n, iMax_n, iMin_n, zO_0, zO_1, li_0, li_1, li_2, li_3, li_4, li_5, li_6, li_7, li_8, li_9, li_10, li_12, li_14, li_15, li_16, li_18, li_19, li_20, li_22, li_23, li_24, li_26, li_29, li_30, li_31, li_32, li_36, li_38, li_48, li_50, li_57, li_58, li_59, li_60, li_63, li_97, li_99, li_120, li_122, li_144, li_168, li_194, li_240, li_255, li_284, li_299, li_603, li_999, li_1200, li_1440, li_4095, li_4096, li_6030, li_16384, li_20160, zl0, zl1, zl2, zl3, zl4, ze01, ze02, ze03, ze04, ze10, ze12, ze13, ze14, ze20, ze21, ze23, ze24, ze30, ze31, ze32, ze34, ze40, ze41, ze42, ze43, zt0, zt1, zt2, zt3, zt4, zq0, zq1, zq2, zq3, zq4, it_t, it_f, Bool.true_eq_false, Bool.false_eq_true, na5, na4, na1441, na2, na10, sx_IOIA, sx_IOIS, sx_IONS, sx_IAIO, sx_IAIS, sx_IANS, sx_ISIO, sx_ISIA, sx_ISNS, sx_NSIO, sx_NSIA, sx_NSIS]
      exact ih _ _ _ (by omega) ⟨i + 1, hlt, rfl, rfl, F2, x2⟩
    by_cases c0 : S (194 + 15 * T 432 (6 * k + i) + 8) ≤ 0
    · rw [if_pos c0]
      refine done h1 F1 ?_
      have cb : tlB T S k i = false := decide_eq_false (fun q => q.1 (by omega))
      rw [tlR, cb]
      exact x1
    · rw [if_neg c0]
      have kc1 := k_chainPerson S1 ha hP x1 y1 hD R1 hg (k := S (194 + 15 * T 432 (6 * k + i) + 8)) (by rw [eo _ (by omega)]; exact Nat.le_refl _)
      have kc2 := k_chainPerson S1 ha hP x1 y1 hD R1 hg (k := S (194 + 15 * T 432 (6 * k + i) + 8) - 1) (by rw [eo _ (by omega)]; omega)
      rw [link_tl eo] at kc1 kc2
      have al := absn_lt6 (T := T) (S := S) (k := k) (p := tlP T S k i)
      have ab1 : h_iv h1 173 (tlP T S k i) = nI (absn T S k (tlP T S k i)) := by rw [F1.iv (by omega)]; exact ab _ b1
      change m_X10_chainPerson a (nI (T 432 (6 * k + i))) (nI (S (194 + 15 * T 432 (6 * k + i) + 8))) h1 = some (nI (tlP T S k i), h1) at kc1
      change m_X10_chainPerson a (nI (T 432 (6 * k + i))) (nI (S (194 + 15 * T 432 (6 * k + i) + 8) - 1)) h1 = some (nI (tlQ T S k i), h1) at kc2
      simp (maxSteps := 3000000) (disch := first | assumption | omega) only [bO_v, bR_v, bX_l, bX_r, bC_l, bC_r, aLet_v, nI_add, pk_mul, dvI_n, rmI_n, iMax_n, iMin_n, zO_0, zO_1, li_0, li_1, li_2, li_3, li_4, li_5, li_6, li_7, li_8, li_9, li_10, li_12, li_14, li_15, li_16, li_18, li_19, li_20, li_22, li_23, li_24, li_26, li_29, li_30, li_31, li_32, li_36, li_38, li_48, li_50, li_57, li_58, li_59, li_60, li_63, li_97, li_99, li_120, li_122, li_144, li_168, li_194, li_240, li_255, li_284, li_299, li_603, li_999, li_1200, li_1440, li_4095, li_4096, li_6030, li_16384, li_20160, zl0, zl1, zl2, zl3, zl4, ze01, ze02, ze03, ze04, ze10, ze12, ze13, ze14, ze20, ze21, ze23, ze24, ze30, ze31, ze32, ze34, ze40, ze41, ze42, ze43, zt0, zt1, zt2, zt3, zt4, zq0, zq1, zq2, zq3, zq4, it_t, it_f, Bool.true_eq_false, Bool.false_eq_true, na5, na4, na1441, na2, na10, sx_IOIA, sx_IOIS, sx_IONS, sx_IAIO, sx_IAIS, sx_IANS, sx_ISIO, sx_ISIA, sx_ISNS, sx_NSIO, sx_NSIA, sx_NSIS, s_cS_gS S1 ha, kc1, c_pu0 S1, c_cu0_al S1, ab1, nI_eq]
      by_cases c1 : absn T S k (tlP T S k i) = 0
      · rw [if_pos c1]
        refine done h1 F1 ?_
        have cb : tlB T S k i = false := decide_eq_false (fun q => q.2 c1)
        rw [tlR, cb]
        exact x1
      · rw [if_neg c1]
        have tr := x1.tr _ b2 _ b1
        have t9 := R1.tr _ b2 _ b1
        have ks := k_shiftDown S1 ha (p := tlQ T S k i) (q := tlP T S k i) (by omega) (by omega) tr t9
        have s1 : nI (S (194 + 15 * T 432 (6 * k + i) + 8)) - nI 1 = nI (S (194 + 15 * T 432 (6 * k + i) + 8) - 1) := pk_sub (by omega)
        simp (maxSteps := 3000000) (disch := first | assumption | omega) only [bO_v, bR_v, bX_l, bX_r, bC_l, bC_r, aLet_v, nI_add, pk_mul, dvI_n, rmI_n, iMax_n, iMin_n, zO_0, zO_1, li_0, li_1, li_2, li_3, li_4, li_5, li_6, li_7, li_8, li_9, li_10, li_12, li_14, li_15, li_16, li_18, li_19, li_20, li_22, li_23, li_24, li_26, li_29, li_30, li_31, li_32, li_36, li_38, li_48, li_50, li_57, li_58, li_59, li_60, li_63, li_97, li_99, li_120, li_122, li_144, li_168, li_194, li_240, li_255, li_284, li_299, li_603, li_999, li_1200, li_1440, li_4095, li_4096, li_6030, li_16384, li_20160, zl0, zl1, zl2, zl3, zl4, ze01, ze02, ze03, ze04, ze10, ze12, ze13, ze14, ze20, ze21, ze23, ze24, ze30, ze31, ze32, ze34, ze40, ze41, ze42, ze43, zt0, zt1, zt2, zt3, zt4, zq0, zq1, zq2, zq3, zq4, it_t, it_f, Bool.true_eq_false, Bool.false_eq_true, na5, na4, na1441, na2, na10, sx_IOIA, sx_IOIS, sx_IONS, sx_IAIO, sx_IAIS, sx_IANS, sx_ISIO, sx_ISIA, sx_ISNS, sx_NSIO, sx_NSIA, sx_NSIS, ms, s1, kc2, s_cS_gS S1 ha, ks]
        have cb : tlB T S k i = true := decide_eq_true ⟨by omega, c1⟩
        have RW1 := tlR_R hD hR hk hlt
        refine done _ ?_ ?_
        · split
          · exact F1
          · exact F1.trans (Fr.si (A := fun o => a ≤ o ∧ o < a + 18) (by omega))
        · have e9 : tlR T S k (i + 1) = pt (tlR T S k i) (50 + 12 * tlQ T S k i + tlP T S k i) (tlR T S k i (50 + 12 * tlQ T S k i + tlP T S k i) - 1) := by rw [tlR, if_pos cb]
          rw [e9]
          split
          · rename_i c2
            have : pt (tlR T S k i) (50 + 12 * tlQ T S k i + tlP T S k i) (tlR T S k i (50 + 12 * tlQ T S k i + tlP T S k i) - 1) = tlR T S k i := funext fun j => by
              unfold pt
              by_cases c3 : j = 50 + 12 * tlQ T S k i + tlP T S k i
              · rw [if_pos c3, c3]; omega
              · rw [if_neg c3]
            rw [this]
            exact x1
          · refine x1.trust hD R1 rfl (fun o j q1 q2 q3 => si_ne (by omega)) (fun j hj => pt_n (by omega)) (fun p hp q hq => ?_)
            by_cases c3 : p = tlQ T S k i ∧ q = tlP T S k i
            · rw [c3.1, c3.2, si_at, pt_e]
            · rw [si_ne (by omega), pt_n (by omega)]; exact x1.tr p hp q hq
  · obtain rfl : i = T 431 k := by omega
    simp (maxSteps := 3000000) (disch := first | assumption | omega) only [m_X4_loseTrust_L2, bO_v, bR_v, bX_l, bX_r, bC_l, bC_r, aLet_v, nI_add, pk_mul, dvI_n, rmI_n, iMax_n, iMin_n, zO_0, zO_1, li_0, li_1, li_2, li_3, li_4, li_5, li_6, li_7, li_8, li_9, li_10, li_12, li_14, li_15, li_16, li_18, li_19, li_20, li_22, li_23, li_24, li_26, li_29, li_30, li_31, li_32, li_36, li_38, li_48, li_50, li_57, li_58, li_59, li_60, li_63, li_97, li_99, li_120, li_122, li_144, li_168, li_194, li_240, li_255, li_284, li_299, li_603, li_999, li_1200, li_1440, li_4095, li_4096, li_6030, li_16384, li_20160, zl0, zl1, zl2, zl3, zl4, ze01, ze02, ze03, ze04, ze10, ze12, ze13, ze14, ze20, ze21, ze23, ze24, ze30, ze31, ze32, ze34, ze40, ze41, ze42, ze43, zt0, zt1, zt2, zt3, zt4, zq0, zq1, zq2, zq3, zq4, it_t, it_f, Bool.true_eq_false, Bool.false_eq_true, na5, na4, na1441, na2, na10, sx_IOIA, sx_IOIS, sx_IONS, sx_IAIO, sx_IAIS, sx_IANS, sx_ISIO, sx_ISIA, sx_ISNS, sx_NSIO, sx_NSIA, sx_NSIS, p_ek_gi S1 hP, kn, nI_ltI, hk83]
    rw [if_neg hlt]
    exact ok_ret ⟨F1, x1⟩
theorem k_sendAway (hS : Sh h) (ha : a ∈ stL) (hP : P ∈ plL) (x : StR h a P T R) (y : PlR h P T) (hD : PlD T) (hR : RwD T R) {p u : Nat} (hp : p < T 412 8) (hu : u < 100000) (h0 : R 0 ≤ u) (hb : R (38 + p) < 2000000000) :
    OK (m_X10_sendAway a (nI p) (nI u) h) (fun r h1 => r = nI (pyF T (R 0) u) ∧ Fr (fun o => o = a + 2 ∨ o = a + 3) h h1 ∧ StR h1 a P T (pd T (R 0) R p u)) := by
  have a1 := st_in a ha
  have a2 := st_mu a ha
  have d0 := hD.nP
  have p1 := pl_in P hP
  have S1 : Sh (h_si h (a + 2) p (nI u)) := hS.si _ _ _
  have F1 : Fr (fun o => o = a + 2 ∨ o = a + 3) h (h_si h (a + 2) p (nI u)) := Fr.si (Or.inl rfl)
  have tm1 : h_iv (h_si h (a + 2) p (nI u)) a 1 = nI (R 0) := by rw [si_ne (by omega)]; exact x.tm
  have pl1 : gr (h_si h (a + 2) p (nI u)) 10 a 0 = some P := gr_ok9 (s_cS S1 ha) (show h_rv (h_si h (a + 2) p (nI u)) a 0 = P from x.pl) (pl_ne0 P hP)
  have y1 : PlR (h_si h (a + 2) p (nI u)) P T := y.keep (fun o q1 q2 => F1.iv (by omega)) hD
  have mi := k_minutesIn S1 hP y1 hD h0 (show u < 1000000 by omega)
  have pa1 : h_iv (h_si h (a + 2) p (nI u)) (a + 3) p = nI (R (38 + p)) := by rw [si_ne (by omega)]; exact x.paid p hp
  have py := pyF_le (T := T) (R 0) u
  simp (maxSteps := 3000000) (disch := first | assumption | omega) only [m_X10_sendAway, bO_v, bR_v, bX_l, bX_r, bC_l, bC_r, aLet_v, nI_add, pk_mul, dvI_n, rmI_n, iMax_n, iMin_n, zO_0, zO_1, li_0, li_1, li_2, li_3, li_4, li_5, li_6, li_7, li_8, li_9, li_10, li_12, li_14, li_15, li_16, li_18, li_19, li_20, li_22, li_23, li_24, li_26, li_29, li_30, li_31, li_32, li_36, li_38, li_48, li_50, li_57, li_58, li_59, li_60, li_63, li_97, li_99, li_120, li_122, li_144, li_168, li_194, li_240, li_255, li_284, li_299, li_603, li_999, li_1200, li_1440, li_4095, li_4096, li_6030, li_16384, li_20160, zl0, zl1, zl2, zl3, zl4, ze01, ze02, ze03, ze04, ze10, ze12, ze13, ze14, ze20, ze21, ze23, ze24, ze30, ze31, ze32, ze34, ze40, ze41, ze42, ze43, zt0, zt1, zt2, zt3, zt4, zq0, zq1, zq2, zq3, zq4, it_t, it_f, Bool.true_eq_false, Bool.false_eq_true, na5, na4, na1441, na2, na10, sx_IOIA, sx_IOIS, sx_IONS, sx_IAIO, sx_IAIS, sx_IANS, sx_ISIO, sx_ISIA, sx_ISNS, sx_NSIO, sx_NSIA, sx_NSIS, s_pout hS ha, s_cout_as hS ha, s_cS_gi S1 ha, tm1, pl1, p_pN S1 hP, p_cN_gS S1 hP, mi, s_ppaid S1 ha, s_cpaid_al S1 ha, pa1, s_cpaid_as S1 ha]
  have e9 : nI u - nI (R 0) + nI (nm (T 418 0) (T 418 1) u - nm (T 418 0) (T 418 1) (R 0)) = nI (pyF T (R 0) u) := by rw [pk_sub h0, nI_add]; rfl
  rw [e9, nI_add]
  refine ok_ret ⟨rfl, F1.trans (Fr.si (Or.inr rfl)), x.send hD hR rfl (fun o j q1 q2 q3 => by rw [si_ne (by omega), si_ne (by omega)]) (fun j hj => ?_) (fun q hq => ?_) (fun q hq => ?_)⟩
  · unfold pd
    rw [pt_n (by omega), pt_n (by omega)]
  · unfold pd
    rw [si_ne (by omega), pt_n (by omega)]
    by_cases c : q = p
    · rw [c, si_at, pt_e]
    · rw [si_ne (by omega), pt_n (by omega)]; exact x.out q hq
  · unfold pd
    by_cases c : q = p
    · rw [c, si_at, pt_e]
    · rw [si_ne (by omega), si_ne (by omega), pt_n (by omega), pt_n (by omega)]; exact x.paid q hq
end
