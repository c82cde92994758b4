/-! undo, save, restore -/
section
variable {h : aH} {T : Nat → Nat → Nat} {P Q : Nat}
theorem r_undoL (hS : Sh h) {U : Nat} (hU : U < 10) (h6 : h_iv h 412 6 = nI U) {k71 : aH → Option (Int32 × aH)} {R : Option (Int32 × aH) → Prop} (hk : ∀ h1, Fr (fun o => o = 413) h h1 → (∀ k, h_iv h1 413 k = if k < 603 then h_iv h 414 (603 * U + k) else h_iv h 413 k) → R (k71 h1)) : R (aL1 (m_X12_undo_L37 412 k71) FU (nI 0) h) := by
  refine aL1_run (fun m s1 h1 => ∃ i, i ≤ 603 ∧ m = 603 - i ∧ s1 = nI i ∧ Fr (fun o => o = 413) h h1 ∧ ∀ k, h_iv h1 413 k = if k < i then h_iv h 414 (603 * U + k) else h_iv h 413 k) ⟨0, Nat.zero_le _, rfl, rfl, Fr.rf, fun k => by rw [if_neg (Nat.not_lt_zero k)]⟩ (by omega) ?_
  rintro rec m s1 h1 ⟨i, hi, rfl, rfl, hF, hv⟩ ih
  have S1 := hF.sh hS
  by_cases hlt : i < 603
  · have e : h_iv h1 414 = h_iv h 414 := hF.iv (by decide)
    have e6 : h_iv h1 412 6 = nI U := by rw [hF.iv (by decide)]; exact h6
    simp (maxSteps := 3000000) (disch := first | assumption | omega) only [m_X12_undo_L37, bO_v, bR_v, bX_l, bX_r, bC_l, bC_r, aJ_v, aLet_v, nI_add, pk_mul, dvI_n, rmI_n, iMax_n, iMin_n, zO_0, zO_1, li_0, li_1, li_2, li_3, li_4, li_5, li_6, li_7, li_8, li_9, li_10, li_12, li_14, li_15, li_16, li_18, li_19, li_20, li_22, li_23, li_24, li_26, li_29, li_30, li_31, li_32, li_36, li_38, li_48, li_50, li_57, li_58, li_59, li_60, li_63, li_97, li_99, li_120, li_122, li_144, li_168, li_194, li_240, li_255, li_284, li_299, li_603, li_999, li_1200, li_1440, li_4095, li_4096, li_6030, li_16384, li_20160, zl0, zl1, zl2, zl3, zl4, ze01, ze02, ze03, ze04, ze10, ze12, ze13, ze14, ze20, ze21, ze23, ze24, ze30, ze31, ze32, ze34, ze40, ze41, ze42, ze43, zt0, zt1, zt2, zt3, zt4, zq0, zq1, zq2, zq3, zq4, it_t, it_f, Bool.true_eq_false, Bool.false_eq_true, na5, na4, na1441, na2, na10, sx_IOIA, sx_IOIS, sx_IONS, sx_IAIO, sx_IAIS, sx_IANS, sx_ISIO, sx_ISIA, sx_ISNS, sx_NSIO, sx_NSIA, sx_NSIS, r_p414 S1, r_p413 S1, r_c414_al S1, r_cM_gi S1, e6, r_c413_as S1, nI_ltI]
    rw [if_pos hlt]
    refine ih _ _ _ (by omega) ⟨i + 1, hlt, rfl, rfl, hF.trans (Fr.si rfl), fun k => ?_⟩
    by_cases c : k = i
    · rw [c, si_at, if_pos (by omega), e]
    · rw [si_ne (by omega), hv k]
      by_cases c2 : k < i
      · rw [if_pos c2, if_pos (by omega)]
      · rw [if_neg c2, if_neg (by omega)]
  · obtain rfl : i = 603 := by omega
    simp (maxSteps := 3000000) (disch := first | assumption | omega) only [m_X12_undo_L37, bO_v, bR_v, bX_l, bX_r, bC_l, bC_r, aLet_v, nI_add, pk_mul, dvI_n, rmI_n, iMax_n, iMin_n, zO_0, zO_1, li_0, li_1, li_2, li_3, li_4, li_5, li_6, li_7, li_8, li_9, li_10, li_12, li_14, li_15, li_16, li_18, li_19, li_20, li_22, li_23, li_24, li_26, li_29, li_30, li_31, li_32, li_36, li_38, li_48, li_50, li_57, li_58, li_59, li_60, li_63, li_97, li_99, li_120, li_122, li_144, li_168, li_194, li_240, li_255, li_284, li_299, li_603, li_999, li_1200, li_1440, li_4095, li_4096, li_6030, li_16384, li_20160, zl0, zl1, zl2, zl3, zl4, ze01, ze02, ze03, ze04, ze10, ze12, ze13, ze14, ze20, ze21, ze23, ze24, ze30, ze31, ze32, ze34, ze40, ze41, ze42, ze43, zt0, zt1, zt2, zt3, zt4, zq0, zq1, zq2, zq3, zq4, it_t, it_f, Bool.true_eq_false, Bool.false_eq_true, na5, na4, na1441, na2, na10, sx_IOIA, sx_IOIS, sx_IONS, sx_IAIO, sx_IAIS, sx_IANS, sx_ISIO, sx_ISIA, sx_ISNS, sx_NSIO, sx_NSIA, sx_NSIS, nI_ltI]
    rw [if_neg hlt]
    exact hk h1 hF hv
/-- a table in which some cells differ -/
def setU (T : Nat → Nat → Nat) (U : Nat) : Nat → Nat → Nat := fun o => if o = 412 then (fun k => if k = 6 then U else T 412 k) else T o
theorem setU_o {U o : Nat} (h : o ≠ 412) : setU T U o = T o := if_neg h
theorem setU_f {U k : Nat} (h : k ≠ 6) : setU T U 412 k = T 412 k := by
  unfold setU
  rw [if_pos rfl]
  exact if_neg h
theorem setU_6 {U : Nat} : setU T U 412 6 = U := by
  unfold setU
  rw [if_pos rfl]
  exact if_pos rfl
theorem setU_pe {U : Nat} : Pe T (setU T U) := ⟨setU_f (by decide), setU_f (by decide), setU_f (by decide), setU_f (by decide), fun o h1 h2 => setU_o (by omega)⟩
/-- a row out of a table, what lies behind it from the present row -/
def rwX (T : Nat → Nat → Nat) (o i j : Nat) : Nat := if j < 603 then T o (603 * i + j) else T 413 j
theorem rwX_g {o i : Nat} {j : Nat} (hj : ¬ garb (rw4 T o i) j) : rwX T o i j = rw4 T o i j := by
  have c : j < 603 := by
    by_cases c : j < 603
    · exact c
    · exact absurd (Or.inl (by omega)) hj
  unfold rwX rw4
  rw [if_pos c, if_pos c]
theorem rwX_B {o i : Nat} (hD : PlD T) (hR : RwD T (T 413)) (hB : RwB T (rw4 T o i)) : RwB T (rwX T o i) := hB.ext hD (fun j hj => rwX_g hj) (fun j => by
  by_cases c : j < 603
  · have := hB.1.big j
    unfold rw4 at this
    unfold rwX
    rw [if_pos c] at this ⊢
    exact this
  · unfold rwX
    rw [if_neg c]; exact hR.big j)
/-- the state is another one of the history, which has U changes then -/
theorem IC.back (I : IC h T P Q) {h1 : aH} {U : Nat} {S : Nat → Nat} (S1 : Sh h1) (C : Cq 134 h h1) {g : aH} (eg : g = h_si h1 180 0 (nI U)) (hU : U ≤ T 412 6) (hb : RwB T S) (hs : StR h1 134 P T S) : CK 0 h g ∧ IC g (setW (setU T U) S) P Q := by
  obtain ⟨a1, a2, a3, a4, a6, a7, a8, a9, a10, a11, a12, a13, a14, a15⟩ := I
  have pin : 4 ≤ P ∧ P + 65 ≤ 134 := by omega
  obtain ⟨c1, c2, c3, c4, c5, c6, c7⟩ := C
  subst eg
  have iv : ∀ o, (o < 134 ∨ (152 ≤ o ∧ o ≠ 180)) → h_iv (h_si h1 180 0 (nI U)) o = h_iv h o := fun o ho => by
    rw [← c6 o (by omega)]
    exact funext fun j => si_ne (by omega)
  have rv : ∀ o k, o ≠ 134 → h_rv (h_si h1 180 0 (nI U)) o k = h_rv h o k := fun o k ho => c7 o k (by omega)
  have pe : Pe T (setW (setU T U) S) := setU_pe.setW S
  have w9 : setW (setU T U) S 413 = S := setW_w
  have stk : ∀ {a : Nat} {S : Nat → Nat}, 184 ≤ a → StR h a P T S → StR (h_si h1 180 0 (nI U)) a P T S := fun {a S} ha y => y.keep (fun o q1 q2 => iv o (by omega)) (rv _ _ (by omega))
  have e6 : setW (setU T U) S 412 6 = U := (congrFun (setW_n (by decide)) 6).trans setU_6
  have e29 : setW (setU T U) S 412 29 = T 412 29 := (congrFun (setW_n (by decide)) 29).trans (setU_f (by decide))
  have eo : ∀ o, o ≠ 413 → o ≠ 412 → setW (setU T U) S o = T o := fun o q1 q2 => (setW_n q1).trans (setU_o q2)
  have er : ∀ o i, o ≠ 413 → o ≠ 412 → rw4 (setW (setU T U) S) o i = rw4 T o i := fun o i q1 q2 => by unfold rw4; rw [eo o q1 q2]
  refine ⟨⟨by show h_nx h ≤ h_nx h1; omega, by show h_nx h1 ≤ _; omega, by show h_sl h1 ≤ _; omega, fun o _ => ⟨by show h_sh h1 o = _; rw [c3], by show h_ln h1 o = _; rw [c4]⟩, fun o ho => iv o (by omega), fun o k q1 q2 => rv o k (by omega), fun o k _ => by show h_lv h1 o k = _; rw [c5]⟩, S1.si _ _ _, a2, by rw [rv _ _ (by decide)]; exact a3, by rw [rv _ _ (by decide)]; exact a4, pe.pld a6, pe.plr (a7.keep (fun o q1 q2 => iv o (by omega)) a6), by rw [w9]; exact pe.rwb hb, ?_, ⟨by rw [e6, si_at], by rw [e6]; exact Nat.le_trans hU a10.2⟩, fun i hi => by rw [rv _ _ (by decide)]; exact a11 i hi, fun i j hi hj => by rw [rv _ _ (by decide), rv _ _ (by decide)]; exact a12 i j hi hj, fun i hi => ?_, fun s hs => ?_, ?_⟩
  · rw [w9]
    exact pe.str (hs.keep (fun o q1 q2 => funext fun j => si_ne (by omega)) rfl)
  · rw [e6] at hi
    obtain ⟨m, m1, m2⟩ := a11 i (Nat.lt_of_lt_of_le hi (Nat.le_trans hU a10.2))
    rw [rv _ _ (by decide), er 414 i (by decide) (by decide)]
    have := a13 i (Nat.lt_of_lt_of_le hi hU)
    exact ⟨pe.rwb this.1, pe.str (stk (by omega) this.2)⟩
  · obtain ⟨b1, b2, b3⟩ := a14 s hs
    rw [iv _ (by omega), eo 417 (by decide) (by decide), er 415 s (by decide) (by decide)]
    exact ⟨b1, b2, fun e => ⟨pe.rwb (b3 e).1, pe.str (stk (by omega) (b3 e).2)⟩⟩
  · rw [iv _ (by omega), iv _ (by omega), e29, eo 435 (by decide) (by decide)]; exact a15
theorem nm_uw (U : Nat) (S : Nat → Nat) (s : Nat) : nmN (setW (setU T U) S) s = nmN T s := (setU_pe.setW S).nm s
/-- .. and the reference's -/
theorem r_back (z : RefR h T) {h1 : aH} {U : Nat} {S : Nat → Nat} (F : Fx (fun o k => o = 413 ∨ (o = 412 ∧ (k = 0 ∨ k = 6))) h h1) (h6 : h_iv h1 412 6 = nI U) (hU : U < 2147483648) (hw : ∀ k, h_iv h1 413 k = nI (S k)) (hb : ∀ k, S k < 2147483648) : RK h h1 ∧ RefR h1 (setW (setU T U) S) := by
  refine ⟨RK.fx F (fun o k q => by omega), fun o k q => ?_, fun o k => ?_⟩
  · by_cases c : o = 413
    · rw [c, setW_w]; exact hw k
    · rw [setW_n c]
      by_cases c2 : o = 412
      · rw [c2]
        rw [c2] at q
        by_cases c3 : k = 6
        · rw [c3, setU_6]; exact h6
        · rw [setU_f c3, F.iv (by unfold rfC at q; omega)]; exact z.1 _ _ q
      · rw [setU_o c2, F.iv (by omega)]; exact z.1 o k q
  · by_cases c : o = 413
    · rw [c, setW_w]; exact hb k
    · rw [setW_n c]
      by_cases c2 : o = 412
      · rw [c2]
        by_cases c3 : k = 6
        · rw [c3, setU_6]; exact hU
        · rw [setU_f c3]; exact z.2 _ _
      · rw [setU_o c2]; exact z.2 o k
theorem q_undo (I : IV h T P Q) : QG h (m_L_undo 1 462 h) (m_X12_undo 412) := by
  have hS := I.sh
  have hD := I.D
  have hR := I.R
  have hP := I.hP
  have y := I.y
  have d0 := hD.nP
  have d1 := hD.nG
  have d2 := hD.nE
  have d3 := hD.nK
  have d4 := hR.tm
  have d5 := I.RB.2.2
  have ha : 134 ∈ stL := by decide
  have x := I.x
  have p8 : kpT T 412 8 = T 412 8 := kpT_pe.1
  have p9 : kpT T 412 9 = T 412 9 := kpT_pe.2.1
  have p10 : kpT T 412 10 = T 412 10 := kpT_pe.2.2.1
  obtain ⟨kc1, kc2⟩ := I.kc
  by_cases c : T 412 6 = 0
  · refine qg_mk (k := 1) (v := 0) I (by decide) (cq_exc ?_ (by decide)) (fun h1 I1 => ?_)
    · simp (maxSteps := 3000000) (disch := first | assumption | omega | exact hR.all _) only [m_L_undo, m_X11_undo, bO_v, bR_v, bX_l, bX_r, bC_l, bC_r, aJ_v, aLet_v, nI_add, pk_mul, dvI_n, rmI_n, iMax_n, iMin_n, zO_0, zO_1, li_0, li_1, li_2, li_3, li_4, li_5, li_6, li_7, li_8, li_9, li_10, li_12, li_14, li_15, li_16, li_18, li_19, li_20, li_22, li_23, li_24, li_26, li_29, li_30, li_31, li_32, li_36, li_38, li_48, li_50, li_57, li_58, li_59, li_60, li_63, li_97, li_99, li_120, li_122, li_144, li_168, li_194, li_240, li_255, li_284, li_299, li_603, li_999, li_1200, li_1440, li_4095, li_4096, li_6030, li_16384, li_20160, zl0, zl1, zl2, zl3, zl4, ze01, ze02, ze03, ze04, ze10, ze12, ze13, ze14, ze20, ze21, ze23, ze24, ze30, ze31, ze32, ze34, ze40, ze41, ze42, ze43, zt0, zt1, zt2, zt3, zt4, zq0, zq1, zq2, zq3, zq4, it_t, it_f, Bool.true_eq_false, Bool.false_eq_true, na5, na4, na1441, na2, na10, sx_IOIA, sx_IOIS, sx_IONS, sx_IAIO, sx_IAIS, sx_IANS, sx_ISIO, sx_ISIA, sx_ISNS, sx_NSIO, sx_NSIA, sx_NSIS, c_cX_gS hS, c_cX_gi hS, c_pst hS, c_phi hS, c_cH_gS hS, c_pmu hS, s_cS_gi hS ha, s_cS_gL hS ha, s_cS_pi hS ha, s_cS_pL hS ha, s_cS_gS hS ha, s_clost_al hS ha, s_clost_as hS ha, s_clost_ln hS ha, s_cout_al hS ha, s_cout_as hS ha, s_cout_ln hS ha, s_cpaid_al hS ha, s_cpaid_as hS ha, s_cpaid_ln hS ha, s_ctrust_al hS ha, s_ctrust_as hS ha, s_ctrust_ln hS ha, s_crot_al hS ha, s_crot_as hS ha, s_crot_ln hS ha, s_chands_al hS ha, s_chands_as hS ha, s_chands_ln hS ha, s_cto_al hS ha, s_cto_as hS ha, s_cto_ln hS ha, s_cends_al hS ha, s_cends_as hS ha, s_cends_ln hS ha, s_cret_al hS ha, s_cret_as hS ha, s_cret_ln hS ha, s_ccrew_al hS ha, s_ccrew_as hS ha, s_ccrew_ln hS ha, s_cL_gi hS ha, s_cL_gL hS ha, s_cL_pi hS ha, s_cL_pL hS ha, s_cL_gS hS ha, s_clcosts_al hS ha, s_clcosts_as hS ha, s_clcosts_ln hS ha, s_clcomers_al hS ha, s_clcomers_as hS ha, s_clcomers_ln hS ha, s_clleavers_al hS ha, s_clleavers_as hS ha, s_clleavers_ln hS ha, s_clengs_al hS ha, s_clengs_as hS ha, s_clengs_ln hS ha, s_cltimes_al hS ha, s_cltimes_as hS ha, s_cltimes_ln hS ha, s_clcrews_al hS ha, s_clcrews_as hS ha, s_clcrews_ln hS ha, s_cbest_al hS ha, s_cbest_as hS ha, s_cbest_ln hS ha, s_plost hS ha, s_pout hS ha, s_ppaid hS ha, s_ptrust hS ha, s_prot hS ha, s_phands hS ha, s_pto hS ha, s_pends hS ha, s_pret hS ha, s_pcrew hS ha, s_plog hS ha, s_plcosts hS ha, s_plcomers hS ha, s_plleavers hS ha, s_plengs hS ha, s_pltimes hS ha, s_plcrews hS ha, s_pbest hS ha, p_cP_gi hS hP, p_cP_gL hS hP, p_cP_pi hS hP, p_cP_pL hS hP, p_cP_gS hS hP, p_cN_gi hS hP, p_cN_gL hS hP, p_cN_pi hS hP, p_cN_pL hS hP, p_cN_gS hS hP, p_cps_ln hS hP, p_ctr_al hS hP, p_ctr_as hS hP, p_ctr_ln hS hP, p_cgs_ln hS hP, p_ces_ln hS hP, p_cks_ln hS hP, p_cable_al hS hP, p_cable_as hS hP, p_cable_ln hS hP, p_pN hS hP, p_pps hS hP, p_ptr hS hP, p_pgs hS hP, p_pes hS hP, p_pks hS hP, p_pable hS hP, p_ep_al hS hP, p_ep_gi hS hP, p_ep_gL hS hP, p_ep_pi hS hP, p_ep_pL hS hP, p_ep_gS hS hP, p_eg_al hS hP, p_eg_gi hS hP, p_eg_gL hS hP, p_eg_pi hS hP, p_eg_pL hS hP, p_eg_gS hS hP, p_egr_p hS hP, p_egr_al hS hP, p_egr_as hS hP, p_egr_ln hS hP, p_ee_al hS hP, p_ee_gi hS hP, p_ee_gL hS hP, p_ee_pi hS hP, p_ee_pL hS hP, p_ee_gS hS hP, p_ees_p hS hP, p_ees_al hS hP, p_ees_as hS hP, p_ees_ln hS hP, p_eed_p hS hP, p_eed_al hS hP, p_eed_as hS hP, p_eed_ln hS hP, p_ek_al hS hP, p_ek_gi hS hP, p_ek_gL hS hP, p_ek_pi hS hP, p_ek_pL hS hP, p_ek_gS hS hP, p_ekg_p hS hP, p_ekg_al hS hP, p_ekg_as hS hP, p_ekg_ln hS hP, p_eke_p hS hP, p_eke_al hS hP, p_eke_as hS hP, p_eke_ln hS hP, I.g3, b2i_0, I.needPerson, I.needPager, I.needEngine, I.needKind, I.needCall, I.needTwo, c_cH_gi hS, kc1, c]
    · have S1 := I1.sh
      refine rq_exc (w := nI 0) ?_ (by decide)
      simp (maxSteps := 3000000) (disch := first | assumption | omega | exact hR.all _) only [m_X12_undo, bO_v, bR_v, bX_l, bX_r, bC_l, bC_r, aJ_v, aLet_v, nI_add, pk_mul, dvI_n, rmI_n, iMax_n, iMin_n, zO_0, zO_1, li_0, li_1, li_2, li_3, li_4, li_5, li_6, li_7, li_8, li_9, li_10, li_12, li_14, li_15, li_16, li_18, li_19, li_20, li_22, li_23, li_24, li_26, li_29, li_30, li_31, li_32, li_36, li_38, li_48, li_50, li_57, li_58, li_59, li_60, li_63, li_97, li_99, li_120, li_122, li_144, li_168, li_194, li_240, li_255, li_284, li_299, li_603, li_999, li_1200, li_1440, li_4095, li_4096, li_6030, li_16384, li_20160, zl0, zl1, zl2, zl3, zl4, ze01, ze02, ze03, ze04, ze10, ze12, ze13, ze14, ze20, ze21, ze23, ze24, ze30, ze31, ze32, ze34, ze40, ze41, ze42, ze43, zt0, zt1, zt2, zt3, zt4, zq0, zq1, zq2, zq3, zq4, it_t, it_f, Bool.true_eq_false, Bool.false_eq_true, na5, na4, na1441, na2, na10, sx_IOIA, sx_IOIS, sx_IONS, sx_IAIO, sx_IAIS, sx_IANS, sx_ISIO, sx_ISIA, sx_ISNS, sx_NSIO, sx_NSIA, sx_NSIS, r_cM_gS S1, r_cM_pi S1, rz_gi S1, r_p413 S1, r_c413_al S1, r_isPerson S1 I1.z hD, r_isPager S1 I1.z hD, r_isKind S1 I1.z hD, r_isCouple S1 I1.z hD, b2i_0, nI_leI, r_cM_gi S1, I1.z.f6, c]
  · obtain ⟨U, hU⟩ : ∃ U, T 412 6 = U + 1 := ⟨T 412 6 - 1, by omega⟩
    obtain ⟨kpR, kpS⟩ := I.kp U (by omega)
    obtain ⟨m, m1, m2⟩ := I.kA U (by omega)
    have hst : h_rv h 181 U ∈ stL := by
      rw [m2]
      have hd : ∀ m, m < 10 → 184 + 19 * m ∈ stL := by decide
      exact hd m m1
    have ne : h_rv h 181 U ≠ 134 := by omega
    have S0 : Sh (h_si h 180 0 (nI U)) := hS.si _ _ _
    have xk : StR (h_si h 180 0 (nI U)) (h_rv h 181 U) P T (rw4 T 414 U) := kpS.keep (fun o q1 q2 => funext fun j => si_ne (by omega)) rfl
    have al : alr (h_si h 180 0 (nI U)) 5 181 (nI U) = some (h_rv h 181 U) := alr_ok (c_ckept S0).1 (c_ckept S0).2 (show U < 10 by omega) (by omega) rfl (by omega)
    obtain ⟨_, h1, e1, S1, C1, x1⟩ := k_copyFrom S0 hst ha ne hP xk hD kpR.1
    have g0 : h_iv (h_si h 180 0 (nI U)) 180 0 = nI U := si_at
    have C0 : Cq 134 h (h_si h1 180 0 (h_iv h 180 0)) := by
      obtain ⟨c1, c2, c3, c4, c5, c6, c7⟩ := C1
      refine ⟨c1, c2, c3, c4, c5, fun o ho => funext fun j => ?_, c7⟩
      by_cases e : o = 180 ∧ j = 0
      · rw [e.1, e.2, si_at]
      · rw [si_ne e, c6 o ho, si_ne e]
    have xX : StR (h_si h1 180 0 (h_iv h 180 0)) 134 P T (rwX T 414 U) := (x1.ext hD kpR.1 (fun j hj => rwX_g hj)).keep (fun o q1 q2 => funext fun j => si_ne (by omega)) rfl
    have v178 : h_iv h1 180 0 = nI U := by rw [C1.2.2.2.2.2.1 _ (by omega), si_at]
    have eh : h1 = h_si (h_si h1 180 0 (h_iv h 180 0)) 180 0 (nI U) := by
      show h1 = (h1.1, h1.2.1, h1.2.2.1, h1.2.2.2.1, up2 (up2 h1.2.2.2.2.1 180 0 (h_iv h 180 0)) 180 0 (nI U), h1.2.2.2.2.2.1, h1.2.2.2.2.2.2)
      have ee : up2 (up2 h1.2.2.2.2.1 180 0 (h_iv h 180 0)) 180 0 (nI U) = h1.2.2.2.2.1 := by
        funext o k
        unfold up2
        by_cases e : o = 180 ∧ k = 0
        · rw [if_pos e, e.1, e.2]; exact v178.symm
        · rw [if_neg e, if_neg e]
      rw [ee]
    have back := I.c.back (U := U) (S := rwX T 414 U) (S1.si 180 0 (h_iv h 180 0)) C0 eh (by omega) (rwX_B hD hR kpR) xX
    refine qg_chg (T' := setW (setU T U) (rwX T 414 U)) I (nI U) (nm_uw _ _) (chg_fin (hE := h1) ?_ back.1 back.2) (fun g1 S1 z1 => ?_)
    · have nU : ¬ U + 1 ≤ 0 := by omega
      have nU2 : ¬ U + 1 = 0 := by omega
      simp (maxSteps := 3000000) (disch := first | assumption | omega | exact hR.all _) only [m_L_undo, m_X11_undo, m_X2_takeBack, bO_v, bR_v, bX_l, bX_r, bC_l, bC_r, aJ_v, aLet_v, nI_add, pk_mul, dvI_n, rmI_n, iMax_n, iMin_n, zO_0, zO_1, li_0, li_1, li_2, li_3, li_4, li_5, li_6, li_7, li_8, li_9, li_10, li_12, li_14, li_15, li_16, li_18, li_19, li_20, li_22, li_23, li_24, li_26, li_29, li_30, li_31, li_32, li_36, li_38, li_48, li_50, li_57, li_58, li_59, li_60, li_63, li_97, li_99, li_120, li_122, li_144, li_168, li_194, li_240, li_255, li_284, li_299, li_603, li_999, li_1200, li_1440, li_4095, li_4096, li_6030, li_16384, li_20160, zl0, zl1, zl2, zl3, zl4, ze01, ze02, ze03, ze04, ze10, ze12, ze13, ze14, ze20, ze21, ze23, ze24, ze30, ze31, ze32, ze34, ze40, ze41, ze42, ze43, zt0, zt1, zt2, zt3, zt4, zq0, zq1, zq2, zq3, zq4, it_t, it_f, Bool.true_eq_false, Bool.false_eq_true, na5, na4, na1441, na2, na10, sx_IOIA, sx_IOIS, sx_IONS, sx_IAIO, sx_IAIS, sx_IANS, sx_ISIO, sx_ISIA, sx_ISNS, sx_NSIO, sx_NSIA, sx_NSIS, c_cX_gS hS, c_cX_gi hS, c_pst hS, c_phi hS, c_cH_gS hS, c_pmu hS, s_cS_gi hS ha, s_cS_gL hS ha, s_cS_pi hS ha, s_cS_pL hS ha, s_cS_gS hS ha, s_clost_al hS ha, s_clost_as hS ha, s_clost_ln hS ha, s_cout_al hS ha, s_cout_as hS ha, s_cout_ln hS ha, s_cpaid_al hS ha, s_cpaid_as hS ha, s_cpaid_ln hS ha, s_ctrust_al hS ha, s_ctrust_as hS ha, s_ctrust_ln hS ha, s_crot_al hS ha, s_crot_as hS ha, s_crot_ln hS ha, s_chands_al hS ha, s_chands_as hS ha, s_chands_ln hS ha, s_cto_al hS ha, s_cto_as hS ha, s_cto_ln hS ha, s_cends_al hS ha, s_cends_as hS ha, s_cends_ln hS ha, s_cret_al hS ha, s_cret_as hS ha, s_cret_ln hS ha, s_ccrew_al hS ha, s_ccrew_as hS ha, s_ccrew_ln hS ha, s_cL_gi hS ha, s_cL_gL hS ha, s_cL_pi hS ha, s_cL_pL hS ha, s_cL_gS hS ha, s_clcosts_al hS ha, s_clcosts_as hS ha, s_clcosts_ln hS ha, s_clcomers_al hS ha, s_clcomers_as hS ha, s_clcomers_ln hS ha, s_clleavers_al hS ha, s_clleavers_as hS ha, s_clleavers_ln hS ha, s_clengs_al hS ha, s_clengs_as hS ha, s_clengs_ln hS ha, s_cltimes_al hS ha, s_cltimes_as hS ha, s_cltimes_ln hS ha, s_clcrews_al hS ha, s_clcrews_as hS ha, s_clcrews_ln hS ha, s_cbest_al hS ha, s_cbest_as hS ha, s_cbest_ln hS ha, s_plost hS ha, s_pout hS ha, s_ppaid hS ha, s_ptrust hS ha, s_prot hS ha, s_phands hS ha, s_pto hS ha, s_pends hS ha, s_pret hS ha, s_pcrew hS ha, s_plog hS ha, s_plcosts hS ha, s_plcomers hS ha, s_plleavers hS ha, s_plengs hS ha, s_pltimes hS ha, s_plcrews hS ha, s_pbest hS ha, p_cP_gi hS hP, p_cP_gL hS hP, p_cP_pi hS hP, p_cP_pL hS hP, p_cP_gS hS hP, p_cN_gi hS hP, p_cN_gL hS hP, p_cN_pi hS hP, p_cN_pL hS hP, p_cN_gS hS hP, p_cps_ln hS hP, p_ctr_al hS hP, p_ctr_as hS hP, p_ctr_ln hS hP, p_cgs_ln hS hP, p_ces_ln hS hP, p_cks_ln hS hP, p_cable_al hS hP, p_cable_as hS hP, p_cable_ln hS hP, p_pN hS hP, p_pps hS hP, p_ptr hS hP, p_pgs hS hP, p_pes hS hP, p_pks hS hP, p_pable hS hP, p_ep_al hS hP, p_ep_gi hS hP, p_ep_gL hS hP, p_ep_pi hS hP, p_ep_pL hS hP, p_ep_gS hS hP, p_eg_al hS hP, p_eg_gi hS hP, p_eg_gL hS hP, p_eg_pi hS hP, p_eg_pL hS hP, p_eg_gS hS hP, p_egr_p hS hP, p_egr_al hS hP, p_egr_as hS hP, p_egr_ln hS hP, p_ee_al hS hP, p_ee_gi hS hP, p_ee_gL hS hP, p_ee_pi hS hP, p_ee_pL hS hP, p_ee_gS hS hP, p_ees_p hS hP, p_ees_al hS hP, p_ees_as hS hP, p_ees_ln hS hP, p_eed_p hS hP, p_eed_al hS hP, p_eed_as hS hP, p_eed_ln hS hP, p_ek_al hS hP, p_ek_gi hS hP, p_ek_gL hS hP, p_ek_pi hS hP, p_ek_pL hS hP, p_ek_gS hS hP, p_ekg_p hS hP, p_ekg_al hS hP, p_ekg_as hS hP, p_ekg_ln hS hP, p_eke_p hS hP, p_eke_al hS hP, p_eke_as hS hP, p_eke_ln hS hP, I.g3, b2i_0, I.needPerson, I.needPager, I.needEngine, I.needKind, I.needCall, I.needTwo, c_cH_gi hS, kc1, hU, nI_eq, nU2, nI_leI, nU, pk_sub, Nat.add_sub_cancel, c_cH_pi hS, c_pkept S0, c_cH_gi S0, g0, al, s_cS_gS S0 ha, e1, c_phi S1, c_cH_gi S1, v178, c_co_as S1]
    · have S2 : Sh (h_si g1 412 0 (nI 0)) := S1.si _ _ _
      have S3 : Sh (h_si (h_si g1 412 0 (nI 0)) 412 6 (nI U)) := S2.si _ _ _
      have f6 : h_iv g1 412 6 = nI (U + 1) := by rw [← hU]; exact z1.f6
      have f62 : h_iv (h_si g1 412 0 (nI 0)) 412 6 = nI (U + 1) := by rw [si_ne (by omega)]; exact f6
      have nU : ¬ U + 1 ≤ 0 := by omega
      simp (maxSteps := 3000000) (disch := first | assumption | omega | exact hR.all _) only [m_X12_undo, bO_v, bR_v, bX_l, bX_r, bC_l, bC_r, aLet_v, nI_add, pk_mul, dvI_n, rmI_n, iMax_n, iMin_n, zO_0, zO_1, li_0, li_1, li_2, li_3, li_4, li_5, li_6, li_7, li_8, li_9, li_10, li_12, li_14, li_15, li_16, li_18, li_19, li_20, li_22, li_23, li_24, li_26, li_29, li_30, li_31, li_32, li_36, li_38, li_48, li_50, li_57, li_58, li_59, li_60, li_63, li_97, li_99, li_120, li_122, li_144, li_168, li_194, li_240, li_255, li_284, li_299, li_603, li_999, li_1200, li_1440, li_4095, li_4096, li_6030, li_16384, li_20160, zl0, zl1, zl2, zl3, zl4, ze01, ze02, ze03, ze04, ze10, ze12, ze13, ze14, ze20, ze21, ze23, ze24, ze30, ze31, ze32, ze34, ze40, ze41, ze42, ze43, zt0, zt1, zt2, zt3, zt4, zq0, zq1, zq2, zq3, zq4, it_t, it_f, Bool.true_eq_false, Bool.false_eq_true, na5, na4, na1441, na2, na10, sx_IOIA, sx_IOIS, sx_IONS, sx_IAIO, sx_IAIS, sx_IANS, sx_ISIO, sx_ISIA, sx_ISNS, sx_NSIO, sx_NSIA, sx_NSIS, r_cM_gi S1, f6, nI_leI, nU, r_cM_pi S1, rz_gi S1, r_cM_gi S2, f62, r_cM_pi S2, pk_sub, Nat.add_sub_cancel, aJ_v]
      refine r_undoL (R := fun o => OK o _) S3 (U := U) (by omega) si_at (fun g3 F3 v3 => ?_)
      have S4 := F3.sh S3
      have e6 : h_iv g3 412 6 = nI U := by rw [F3.iv (by decide), si_at]
      have FF : Fx (fun o k => o = 413 ∨ (o = 412 ∧ (k = 0 ∨ k = 6))) g1 g3 := ((Fx.si (A := fun o k => o = 413 ∨ (o = 412 ∧ (k = 0 ∨ k = 6))) (Or.inr ⟨rfl, Or.inl rfl⟩)).trans (Fx.si (Or.inr ⟨rfl, Or.inr rfl⟩))).trans (F3.fx.mono (fun o k q => Or.inl q))
      have rb := r_back z1 (S := rwX T 414 U) FF e6 (by omega) (fun k => by
        rw [v3 k]
        unfold rwX
        by_cases c9 : k < 603
        · rw [if_pos c9, if_pos c9, si_ne (by omega), si_ne (by omega)]; exact z1.c414 _
        · rw [if_neg c9, if_neg c9, si_ne (by omega), si_ne (by omega)]; exact z1.c413 _) (fun k => by
        unfold rwX
        split <;> exact z1.2 _ _)
      simp (maxSteps := 3000000) (disch := first | assumption | omega | exact hR.all _) only [bO_v, bR_v, bX_l, bX_r, bC_l, bC_r, aLet_v, nI_add, pk_mul, dvI_n, rmI_n, iMax_n, iMin_n, zO_0, zO_1, li_0, li_1, li_2, li_3, li_4, li_5, li_6, li_7, li_8, li_9, li_10, li_12, li_14, li_15, li_16, li_18, li_19, li_20, li_22, li_23, li_24, li_26, li_29, li_30, li_31, li_32, li_36, li_38, li_48, li_50, li_57, li_58, li_59, li_60, li_63, li_97, li_99, li_120, li_122, li_144, li_168, li_194, li_240, li_255, li_284, li_299, li_603, li_999, li_1200, li_1440, li_4095, li_4096, li_6030, li_16384, li_20160, zl0, zl1, zl2, zl3, zl4, ze01, ze02, ze03, ze04, ze10, ze12, ze13, ze14, ze20, ze21, ze23, ze24, ze30, ze31, ze32, ze34, ze40, ze41, ze42, ze43, zt0, zt1, zt2, zt3, zt4, zq0, zq1, zq2, zq3, zq4, it_t, it_f, Bool.true_eq_false, Bool.false_eq_true, na5, na4, na1441, na2, na10, sx_IOIA, sx_IOIS, sx_IONS, sx_IAIO, sx_IAIS, sx_IANS, sx_ISIO, sx_ISIA, sx_ISNS, sx_NSIO, sx_NSIA, sx_NSIS, r_cM_gi S4, e6]
      exact ok_ret ⟨rfl, by rw [F3.iv (by decide), si_ne (by omega), si_at], rb.1, rb.2⟩
/-! save and restore -/
def QS (h : aH) (x : Option (Int32 × aH)) (y : aH → Option (Unit × aH)) : Prop := ∃ k, k < 5 ∧ OK x (fun r h1 => r = nI k ∧ OK (y h1) (fun _ h2 => h_iv h2 412 0 = nI k ∧ XI h2 (h_nx h + 2) (h_sl h + 24)))
theorem qs_exc {x : Option (Int32 × aH)} {y : aH → Option (Unit × aH)} {k : Nat} (I : IV h T P Q) (hk : k < 5) (e : x = some (nI k, h_exc h)) (hy : ∀ h1, IV h1 T P Q → OK (y h1) (fun _ h2 => QF 0 h1 h2 ∧ h_iv h2 412 0 = nI k)) : QS h x y := by
  have q2 : QF 2 h (h_exc h) := QF.exc.le (by decide)
  obtain ⟨b, h2, e2, q4, q5⟩ := hy _ (I.go q2)
  refine ⟨k, hk, _, _, e, rfl, b, h2, e2, q5, ⟨T, P, Q, (I.go q2).go q4⟩, ?_, ?_⟩
  · have := q4.2.1
    have := q2.2.1
    omega
  · have := q4.2.2.1
    have := q2.2.2.1
    omega
theorem qs_chg {x : Option (Int32 × aH)} {y : aH → Option (Unit × aH)} {T' : Nat → Nat → Nat} (I : IV h T P Q) (hT : ∀ s, nmN T' s = nmN T s) {hE : aH} (e : x = some (nI 0, hE)) (c : CK 0 h hE) (J : IC hE T' P Q)
    (hy : ∀ h1, Sh h1 → RefR h1 T → OK (y h1) (fun _ h2 => h_iv h2 412 0 = nI 0 ∧ RK h1 h2 ∧ RefR h2 T')) : QS h x y := by
  obtain ⟨b, h2, e2, q6, q7, q8⟩ := hy hE J.sh (c.z I.z)
  refine ⟨0, by decide, _, _, e, rfl, b, h2, e2, q6, ⟨T', P, Q, I.chg c J q7 q8 hT⟩, ?_, ?_⟩
  · have := c.2.1
    rw [q7.1]; omega
  · have := c.2.2.1
    rw [q7.2.1]; omega
/-- the present row in slot s -/
def svT (T : Nat → Nat → Nat) (s : Nat) : Nat → Nat → Nat := fun o => if o = 415 then (fun k => if 603 * s ≤ k ∧ k < 603 * s + 603 then T 413 (k - 603 * s) else T 415 k) else if o = 417 then (fun k => if k = s then 1 else T 417 k) else T o
theorem svT_o {s o : Nat} (h1 : o ≠ 415) (h2 : o ≠ 417) : svT T s o = T o := by
  unfold svT
  rw [if_neg h1, if_neg h2]
theorem svT_1 {s k : Nat} : svT T s 415 k = if 603 * s ≤ k ∧ k < 603 * s + 603 then T 413 (k - 603 * s) else T 415 k := by
  unfold svT
  rw [if_pos rfl]
theorem svT_3 {s k : Nat} : svT T s 417 k = if k = s then 1 else T 417 k := by
  unfold svT
  rw [if_neg (by decide), if_pos rfl]
theorem svT_pe {s : Nat} : Pe T (svT T s) := ⟨congrFun (svT_o (by decide) (by decide)) _, congrFun (svT_o (by decide) (by decide)) _, congrFun (svT_o (by decide) (by decide)) _, congrFun (svT_o (by decide) (by decide)) _, fun o h1 h2 => svT_o (by omega) (by omega)⟩
theorem r_saveL (hS : Sh h) (h0 : h_iv h 412 0 = nI 0) {s : Nat} (hs : s < 2) {k66 : aH → Option (Unit × aH)} {R : Option (Unit × aH) → Prop} (hk : ∀ h1, Fx (fun o k => o = 415 ∨ o = 417) h h1 → (∀ k, h_iv h1 415 k = if 603 * s ≤ k ∧ k < 603 * s + 603 then h_iv h 413 (k - 603 * s) else h_iv h 415 k) → (∀ k, h_iv h1 417 k = if k = s then nI 1 else h_iv h 417 k) → R (k66 h1)) : R (aL1 (m_X12_save_L21 412 (nI s) k66) FU (nI 0) h) := by
  refine aL1_run (fun m s1 h1 => ∃ i, i ≤ 603 ∧ m = 603 - i ∧ s1 = nI i ∧ Fx (fun o k => o = 415 ∨ o = 417) h h1 ∧ (∀ k, h_iv h1 415 k = if 603 * s ≤ k ∧ k < 603 * s + i then h_iv h 413 (k - 603 * s) else h_iv h 415 k) ∧ ∀ k, h_iv h1 417 k = if k = s ∧ 0 < i then nI 1 else h_iv h 417 k) ⟨0, Nat.zero_le _, rfl, rfl, Fx.rf, fun k => by rw [if_neg (by omega)], fun k => by rw [if_neg (by omega)]⟩ (by omega) ?_
  rintro rec m s1 h1 ⟨i, hi, rfl, rfl, hF, hv, hv3⟩ ih
  have S1 := hF.sh hS
  have z1 : h_iv h1 412 0 = nI 0 := by rw [hF.iv (by omega)]; exact h0
  by_cases hlt : i < 603
  · have e : ∀ k, h_iv h1 413 k = h_iv h 413 k := fun k => hF.iv (by omega)
    have S2 : Sh (h_si h1 415 (603 * s + i) (h_iv h 413 i)) := S1.si _ _ _
    have w3 : asz (h_si h1 415 (603 * s + i) (h_iv h 413 i)) 417 (nI s) (nI 1) = some (h_si (h_si h1 415 (603 * s + i) (h_iv h 413 i)) 417 s (nI 1)) := r_c417_as S2 hs (Or.inr rfl)
    simp (maxSteps := 3000000) (disch := first | assumption | omega) only [m_X12_save_L21, bO_v, bR_v, bX_l, bX_r, bC_l, bC_r, aJ_v, aLet_v, nI_add, pk_mul, dvI_n, rmI_n, iMax_n, iMin_n, zO_0, zO_1, li_0, li_1, li_2, li_3, li_4, li_5, li_6, li_7, li_8, li_9, li_10, li_12, li_14, li_15, li_16, li_18, li_19, li_20, li_22, li_23, li_24, li_26, li_29, li_30, li_31, li_32, li_36, li_38, li_48, li_50, li_57, li_58, li_59, li_60, li_63, li_97, li_99, li_120, li_122, li_144, li_168, li_194, li_240, li_255, li_284, li_299, li_603, li_999, li_1200, li_1440, li_4095, li_4096, li_6030, li_16384, li_20160, zl0, zl1, zl2, zl3, zl4, ze01, ze02, ze03, ze04, ze10, ze12, ze13, ze14, ze20, ze21, ze23, ze24, ze30, ze31, ze32, ze34, ze40, ze41, ze42, ze43, zt0, zt1, zt2, zt3, zt4, zq0, zq1, zq2, zq3, zq4, it_t, it_f, Bool.true_eq_false, Bool.false_eq_true, na5, na4, na1441, na2, na10, sx_IOIA, sx_IOIS, sx_IONS, sx_IAIO, sx_IAIS, sx_IANS, sx_ISIO, sx_ISIA, sx_ISNS, sx_NSIO, sx_NSIA, sx_NSIS, r_cM_gi S1, z1, r_p415 S1, r_p413 S1, r_c413_al S1, e, r_c415_as S1, r_p417 S2, w3, nI_ltI]
    rw [if_pos hlt]
    refine ih _ _ _ (by omega) ⟨i + 1, hlt, rfl, rfl, (hF.trans (Fx.si (Or.inl rfl))).trans (Fx.si (Or.inr rfl)), fun k => ?_, fun k => ?_⟩
    · rw [si_ne (by omega)]
      by_cases c : k = 603 * s + i
      · rw [c, si_at, if_pos (by omega), show 603 * s + i - 603 * s = i by omega]
      · rw [si_ne (by omega), hv k]
        by_cases c2 : 603 * s ≤ k ∧ k < 603 * s + i
        · rw [if_pos c2, if_pos (by omega)]
        · rw [if_neg c2, if_neg (by omega)]
    · by_cases c : k = s
      · rw [c, si_at, if_pos (by omega)]
      · rw [si_ne (by omega), si_ne (by omega), hv3 k, if_neg (by omega), if_neg (by omega)]
  · obtain rfl : i = 603 := by omega
    simp (maxSteps := 3000000) (disch := first | assumption | omega) only [m_X12_save_L21, bO_v, bR_v, bX_l, bX_r, bC_l, bC_r, aLet_v, nI_add, pk_mul, dvI_n, rmI_n, iMax_n, iMin_n, zO_0, zO_1, li_0, li_1, li_2, li_3, li_4, li_5, li_6, li_7, li_8, li_9, li_10, li_12, li_14, li_15, li_16, li_18, li_19, li_20, li_22, li_23, li_24, li_26, li_29, li_30, li_31, li_32, li_36, li_38, li_48, li_50, li_57, li_58, li_59, li_60, li_63, li_97, li_99, li_120, li_122, li_144, li_168, li_194, li_240, li_255, li_284, li_299, li_603, li_999, li_1200, li_1440, li_4095, li_4096, li_6030, li_16384, li_20160, zl0, zl1, zl2, zl3, zl4, ze01, ze02, ze03, ze04, ze10, ze12, ze13, ze14, ze20, ze21, ze23, ze24, ze30, ze31, ze32, ze34, ze40, ze41, ze42, ze43, zt0, zt1, zt2, zt3, zt4, zq0, zq1, zq2, zq3, zq4, it_t, it_f, Bool.true_eq_false, Bool.false_eq_true, na5, na4, na1441, na2, na10, sx_IOIA, sx_IOIS, sx_IONS, sx_IAIO, sx_IAIS, sx_IANS, sx_ISIO, sx_ISIA, sx_ISNS, sx_NSIO, sx_NSIA, sx_NSIS, nI_ltI]
    rw [if_neg hlt]
    refine hk h1 hF hv (fun k => ?_)
    rw [hv3 k]
    by_cases c : k = s
    · rw [if_pos c, if_pos (by omega)]
    · rw [if_neg c, if_neg (by omega)]
theorem IV.needSlot (x : Int32) : m_X11_needSlot 1 x h = if inr x 2 = true then some (.inl (), h) else some (.inr "java/lang/IndexOutOfBoundsException", h_exc h) := by
  simp (maxSteps := 3000000) (disch := first | assumption | omega) only [m_X11_needSlot, bO_v, bR_v, bX_l, bX_r, bC_l, bC_r, aJ_v, aLet_v, nI_add, pk_mul, dvI_n, rmI_n, iMax_n, iMin_n, zO_0, zO_1, li_0, li_1, li_2, li_3, li_4, li_5, li_6, li_7, li_8, li_9, li_10, li_12, li_14, li_15, li_16, li_18, li_19, li_20, li_22, li_23, li_24, li_26, li_29, li_30, li_31, li_32, li_36, li_38, li_48, li_50, li_57, li_58, li_59, li_60, li_63, li_97, li_99, li_120, li_122, li_144, li_168, li_194, li_240, li_255, li_284, li_299, li_603, li_999, li_1200, li_1440, li_4095, li_4096, li_6030, li_16384, li_20160, zl0, zl1, zl2, zl3, zl4, ze01, ze02, ze03, ze04, ze10, ze12, ze13, ze14, ze20, ze21, ze23, ze24, ze30, ze31, ze32, ze34, ze40, ze41, ze42, ze43, zt0, zt1, zt2, zt3, zt4, zq0, zq1, zq2, zq3, zq4, it_t, it_f, Bool.true_eq_false, Bool.false_eq_true, na5, na4, na1441, na2, na10, sx_IOIA, sx_IOIS, sx_IONS, sx_IAIO, sx_IAIS, sx_IANS, sx_ISIO, sx_ISIA, sx_ISNS, sx_NSIO, sx_NSIA, sx_NSIS]
  exact ndl (by decide)
theorem q_save (I : IV h T P Q) (s : Int32) : QS h (m_L_save 1 s h) (m_X12_save 412 s) := by
  have hS := I.sh
  have hD := I.D
  have hR := I.R
  have hP := I.hP
  have y := I.y
  have d0 := hD.nP
  have d1 := hD.nG
  have d2 := hD.nE
  have d3 := hD.nK
  have d4 := hR.tm
  have d5 := I.RB.2.2
  have ha : 134 ∈ stL := by decide
  have x := I.x
  have p8 : kpT T 412 8 = T 412 8 := kpT_pe.1
  have p9 : kpT T 412 9 = T 412 9 := kpT_pe.2.1
  have p10 : kpT T 412 10 = T 412 10 := kpT_pe.2.2.1
  have n10 : ¬ nI 1 = nI 0 := by decide
  cases c : inr s 2
  · refine qs_exc (k := 1) I (by decide) ?_ (fun h1 I1 => ?_)
    · simp (maxSteps := 3000000) (disch := first | assumption | omega | exact hR.all _) only [m_L_save, m_X11_save, bO_v, bR_v, bX_l, bX_r, bC_l, bC_r, aJ_v, aLet_v, nI_add, pk_mul, dvI_n, rmI_n, iMax_n, iMin_n, zO_0, zO_1, li_0, li_1, li_2, li_3, li_4, li_5, li_6, li_7, li_8, li_9, li_10, li_12, li_14, li_15, li_16, li_18, li_19, li_20, li_22, li_23, li_24, li_26, li_29, li_30, li_31, li_32, li_36, li_38, li_48, li_50, li_57, li_58, li_59, li_60, li_63, li_97, li_99, li_120, li_122, li_144, li_168, li_194, li_240, li_255, li_284, li_299, li_603, li_999, li_1200, li_1440, li_4095, li_4096, li_6030, li_16384, li_20160, zl0, zl1, zl2, zl3, zl4, ze01, ze02, ze03, ze04, ze10, ze12, ze13, ze14, ze20, ze21, ze23, ze24, ze30, ze31, ze32, ze34, ze40, ze41, ze42, ze43, zt0, zt1, zt2, zt3, zt4, zq0, zq1, zq2, zq3, zq4, it_t, it_f, Bool.true_eq_false, Bool.false_eq_true, na5, na4, na1441, na2, na10, sx_IOIA, sx_IOIS, sx_IONS, sx_IAIO, sx_IAIS, sx_IANS, sx_ISIO, sx_ISIA, sx_ISNS, sx_NSIO, sx_NSIA, sx_NSIS, c_cX_gS hS, c_cX_gi hS, c_pst hS, c_phi hS, c_cH_gS hS, c_pmu hS, s_cS_gi hS ha, s_cS_gL hS ha, s_cS_pi hS ha, s_cS_pL hS ha, s_cS_gS hS ha, s_clost_al hS ha, s_clost_as hS ha, s_clost_ln hS ha, s_cout_al hS ha, s_cout_as hS ha, s_cout_ln hS ha, s_cpaid_al hS ha, s_cpaid_as hS ha, s_cpaid_ln hS ha, s_ctrust_al hS ha, s_ctrust_as hS ha, s_ctrust_ln hS ha, s_crot_al hS ha, s_crot_as hS ha, s_crot_ln hS ha, s_chands_al hS ha, s_chands_as hS ha, s_chands_ln hS ha, s_cto_al hS ha, s_cto_as hS ha, s_cto_ln hS ha, s_cends_al hS ha, s_cends_as hS ha, s_cends_ln hS ha, s_cret_al hS ha, s_cret_as hS ha, s_cret_ln hS ha, s_ccrew_al hS ha, s_ccrew_as hS ha, s_ccrew_ln hS ha, s_cL_gi hS ha, s_cL_gL hS ha, s_cL_pi hS ha, s_cL_pL hS ha, s_cL_gS hS ha, s_clcosts_al hS ha, s_clcosts_as hS ha, s_clcosts_ln hS ha, s_clcomers_al hS ha, s_clcomers_as hS ha, s_clcomers_ln hS ha, s_clleavers_al hS ha, s_clleavers_as hS ha, s_clleavers_ln hS ha, s_clengs_al hS ha, s_clengs_as hS ha, s_clengs_ln hS ha, s_cltimes_al hS ha, s_cltimes_as hS ha, s_cltimes_ln hS ha, s_clcrews_al hS ha, s_clcrews_as hS ha, s_clcrews_ln hS ha, s_cbest_al hS ha, s_cbest_as hS ha, s_cbest_ln hS ha, s_plost hS ha, s_pout hS ha, s_ppaid hS ha, s_ptrust hS ha, s_prot hS ha, s_phands hS ha, s_pto hS ha, s_pends hS ha, s_pret hS ha, s_pcrew hS ha, s_plog hS ha, s_plcosts hS ha, s_plcomers hS ha, s_plleavers hS ha, s_plengs hS ha, s_pltimes hS ha, s_plcrews hS ha, s_pbest hS ha, p_cP_gi hS hP, p_cP_gL hS hP, p_cP_pi hS hP, p_cP_pL hS hP, p_cP_gS hS hP, p_cN_gi hS hP, p_cN_gL hS hP, p_cN_pi hS hP, p_cN_pL hS hP, p_cN_gS hS hP, p_cps_ln hS hP, p_ctr_al hS hP, p_ctr_as hS hP, p_ctr_ln hS hP, p_cgs_ln hS hP, p_ces_ln hS hP, p_cks_ln hS hP, p_cable_al hS hP, p_cable_as hS hP, p_cable_ln hS hP, p_pN hS hP, p_pps hS hP, p_ptr hS hP, p_pgs hS hP, p_pes hS hP, p_pks hS hP, p_pable hS hP, p_ep_al hS hP, p_ep_gi hS hP, p_ep_gL hS hP, p_ep_pi hS hP, p_ep_pL hS hP, p_ep_gS hS hP, p_eg_al hS hP, p_eg_gi hS hP, p_eg_gL hS hP, p_eg_pi hS hP, p_eg_pL hS hP, p_eg_gS hS hP, p_egr_p hS hP, p_egr_al hS hP, p_egr_as hS hP, p_egr_ln hS hP, p_ee_al hS hP, p_ee_gi hS hP, p_ee_gL hS hP, p_ee_pi hS hP, p_ee_pL hS hP, p_ee_gS hS hP, p_ees_p hS hP, p_ees_al hS hP, p_ees_as hS hP, p_ees_ln hS hP, p_eed_p hS hP, p_eed_al hS hP, p_eed_as hS hP, p_eed_ln hS hP, p_ek_al hS hP, p_ek_gi hS hP, p_ek_gL hS hP, p_ek_pi hS hP, p_ek_pL hS hP, p_ek_gS hS hP, p_ekg_p hS hP, p_ekg_al hS hP, p_ekg_as hS hP, p_ekg_ln hS hP, p_eke_p hS hP, p_eke_al hS hP, p_eke_as hS hP, p_eke_ln hS hP, I.g3, b2i_0, I.needPerson, I.needPager, I.needEngine, I.needKind, I.needCall, I.needTwo, IV.needSlot, c]
    · have S1 := I1.sh
      have S0 : Sh (h_si h1 412 0 (nI 1)) := S1.si _ _ _
      have fin : aL1 (m_X12_save_L21 412 s fun h4 => some ((), h4)) FU (nI 0) (h_si h1 412 0 (nI 1)) = some ((), h_si h1 412 0 (nI 1)) := by
        refine aL1_run (R := fun o => o = some ((), h_si h1 412 0 (nI 1))) (fun m s1 h2 => h2 = h_si h1 412 0 (nI 1) ∧ s1 = nI 0) (m := 0) ⟨rfl, rfl⟩ (by decide) ?_
        rintro rec m s1 h2 ⟨rfl, rfl⟩ -
        simp (maxSteps := 3000000) (disch := first | assumption | omega | exact hR.all _) only [m_X12_save_L21, bO_v, bR_v, bX_l, bX_r, bC_l, bC_r, aJ_v, aLet_v, nI_add, pk_mul, dvI_n, rmI_n, iMax_n, iMin_n, zO_0, zO_1, li_0, li_1, li_2, li_3, li_4, li_5, li_6, li_7, li_8, li_9, li_10, li_12, li_14, li_15, li_16, li_18, li_19, li_20, li_22, li_23, li_24, li_26, li_29, li_30, li_31, li_32, li_36, li_38, li_48, li_50, li_57, li_58, li_59, li_60, li_63, li_97, li_99, li_120, li_122, li_144, li_168, li_194, li_240, li_255, li_284, li_299, li_603, li_999, li_1200, li_1440, li_4095, li_4096, li_6030, li_16384, li_20160, zl0, zl1, zl2, zl3, zl4, ze01, ze02, ze03, ze04, ze10, ze12, ze13, ze14, ze20, ze21, ze23, ze24, ze30, ze31, ze32, ze34, ze40, ze41, ze42, ze43, zt0, zt1, zt2, zt3, zt4, zq0, zq1, zq2, zq3, zq4, it_t, it_f, Bool.true_eq_false, Bool.false_eq_true, na5, na4, na1441, na2, na10, sx_IOIA, sx_IOIS, sx_IONS, sx_IAIO, sx_IAIS, sx_IANS, sx_ISIO, sx_ISIA, sx_ISNS, sx_NSIO, sx_NSIA, sx_NSIS, rz_gi S1, n10]
        split <;> rfl
      refine ⟨(), h_si h1 412 0 (nI 1), ?_, QF.si (by unfold SQ; omega), si_at⟩
      simp (maxSteps := 3000000) (disch := first | assumption | omega | exact hR.all _) only [m_X12_save, bO_v, bR_v, bX_l, bX_r, bC_l, bC_r, aJ_v, aLet_v, nI_add, pk_mul, dvI_n, rmI_n, iMax_n, iMin_n, zO_0, zO_1, li_0, li_1, li_2, li_3, li_4, li_5, li_6, li_7, li_8, li_9, li_10, li_12, li_14, li_15, li_16, li_18, li_19, li_20, li_22, li_23, li_24, li_26, li_29, li_30, li_31, li_32, li_36, li_38, li_48, li_50, li_57, li_58, li_59, li_60, li_63, li_97, li_99, li_120, li_122, li_144, li_168, li_194, li_240, li_255, li_284, li_299, li_603, li_999, li_1200, li_1440, li_4095, li_4096, li_6030, li_16384, li_20160, zl0, zl1, zl2, zl3, zl4, ze01, ze02, ze03, ze04, ze10, ze12, ze13, ze14, ze20, ze21, ze23, ze24, ze30, ze31, ze32, ze34, ze40, ze41, ze42, ze43, zt0, zt1, zt2, zt3, zt4, zq0, zq1, zq2, zq3, zq4, it_t, it_f, Bool.true_eq_false, Bool.false_eq_true, na5, na4, na1441, na2, na10, sx_IOIA, sx_IOIS, sx_IONS, sx_IAIO, sx_IAIS, sx_IANS, sx_ISIO, sx_ISIA, sx_ISNS, sx_NSIO, sx_NSIA, sx_NSIS, r_cM_gS S1, r_cM_pi S1, rz_gi S1, r_p413 S1, r_c413_al S1, r_isPerson S1 I1.z hD, r_isPager S1 I1.z hD, r_isKind S1 I1.z hD, r_isCouple S1 I1.z hD, b2i_0, nI_leI, r_in1, c, fin]
  · obtain ⟨s, hs, rfl⟩ := inr_t c (by decide)
    obtain ⟨a, ha2, hae⟩ : ∃ a, a ∈ stL ∧ a = 374 + 19 * s := ⟨_, (by
      have hd : ∀ s, s < 2 → 374 + 19 * s ∈ stL := by decide
      exact hd s hs), rfl⟩
    have ptr : h_rv h 182 s = a := by
      have hd : ∀ s, s < 2 → (182, s, 374 + 19 * s) ∈ ptL := by decide +kernel
      rw [hae]
      exact hS.2.2 _ (hd s hs)
    have al : alr h 5 182 (nI s) = some a := alr_ok (c_cslots hS).1 (c_cslots hS).2 hs (by omega) ptr (st_ne0 a ha2)
    obtain ⟨_, h1, e1, S1, C1, x1⟩ := k_copyFrom hS ha ha2 (by omega) hP x hD hR
    have w3 : asz h1 183 (nI s) (nI 1) = some (h_si h1 183 s (nI 1)) := c_cfill_as S1 hs (Or.inr rfl)
    have pe : Pe T (svT T s) := svT_pe
    have pin := pl_in P hP
    obtain ⟨c1, c2, c3, c4, c5, c6, c7⟩ := C1
    have iv : ∀ o, ¬ (a ≤ o ∧ o < a + 18) → o ≠ 183 → h_iv (h_si h1 183 s (nI 1)) o = h_iv h o := fun o q1 q2 => by
      rw [← c6 o q1]
      exact funext fun j => si_ne (by omega)
    have rv : ∀ o k, ¬ (o = a ∧ k = 0) → h_rv (h_si h1 183 s (nI 1)) o k = h_rv h o k := fun o k ho => c7 o k ho
    have stk : ∀ {b : Nat} {S : Nat → Nat}, (b = 134 ∨ (184 ≤ b ∧ (b + 18 ≤ a ∨ a + 18 ≤ b))) → StR h b P T S → StR (h_si h1 183 s (nI 1)) b P T S := fun {b S} hb y => y.keep (fun o q1 q2 => iv o (by omega) (by omega)) (rv _ _ (by omega))
    have eo : ∀ o, o ≠ 415 → o ≠ 417 → svT T s o = T o := fun o q1 q2 => svT_o q1 q2
    have e413 : svT T s 413 = T 413 := eo _ (by decide) (by decide)
    have e6 : svT T s 412 = T 412 := eo _ (by decide) (by decide)
    have e414 : ∀ i, rw4 (svT T s) 414 i = rw4 T 414 i := fun i => by unfold rw4; rw [eo 414 (by decide) (by decide)]
    have new : ∀ j, ¬ garb (T 413) j → rw4 (svT T s) 415 s j = T 413 j := fun j hj => by
      have cj : j < 603 := by
        by_cases cj : j < 603
        · exact cj
        · exact absurd (Or.inl (by omega)) hj
      unfold rw4
      rw [if_pos cj, svT_1, if_pos (by omega), show 603 * s + j - 603 * s = j by omega]
    have newB : RwB T (rw4 (svT T s) 415 s) := I.RB.ext hD new (fun j => by
      unfold rw4
      by_cases cj : j < 603
      · rw [if_pos cj, svT_1, if_pos (by omega)]; exact hR.big _
      · rw [if_neg cj]; decide)
    refine qs_chg (T' := svT T s) I (fun q => pe.nm q) (hE := h_si h1 183 s (nI 1)) ?_ ?_ ?_ (fun g1 S1 z1 => ?_)
    · simp (maxSteps := 3000000) (disch := first | assumption | omega | exact hR.all _) only [m_L_save, m_X11_save, bO_v, bR_v, bX_l, bX_r, bC_l, bC_r, aJ_v, aLet_v, nI_add, pk_mul, dvI_n, rmI_n, iMax_n, iMin_n, zO_0, zO_1, li_0, li_1, li_2, li_3, li_4, li_5, li_6, li_7, li_8, li_9, li_10, li_12, li_14, li_15, li_16, li_18, li_19, li_20, li_22, li_23, li_24, li_26, li_29, li_30, li_31, li_32, li_36, li_38, li_48, li_50, li_57, li_58, li_59, li_60, li_63, li_97, li_99, li_120, li_122, li_144, li_168, li_194, li_240, li_255, li_284, li_299, li_603, li_999, li_1200, li_1440, li_4095, li_4096, li_6030, li_16384, li_20160, zl0, zl1, zl2, zl3, zl4, ze01, ze02, ze03, ze04, ze10, ze12, ze13, ze14, ze20, ze21, ze23, ze24, ze30, ze31, ze32, ze34, ze40, ze41, ze42, ze43, zt0, zt1, zt2, zt3, zt4, zq0, zq1, zq2, zq3, zq4, it_t, it_f, Bool.true_eq_false, Bool.false_eq_true, na5, na4, na1441, na2, na10, sx_IOIA, sx_IOIS, sx_IONS, sx_IAIO, sx_IAIS, sx_IANS, sx_ISIO, sx_ISIA, sx_ISNS, sx_NSIO, sx_NSIA, sx_NSIS, c_cX_gS hS, c_cX_gi hS, c_pst hS, c_phi hS, c_cH_gS hS, c_pmu hS, s_cS_gi hS ha, s_cS_gL hS ha, s_cS_pi hS ha, s_cS_pL hS ha, s_cS_gS hS ha, s_clost_al hS ha, s_clost_as hS ha, s_clost_ln hS ha, s_cout_al hS ha, s_cout_as hS ha, s_cout_ln hS ha, s_cpaid_al hS ha, s_cpaid_as hS ha, s_cpaid_ln hS ha, s_ctrust_al hS ha, s_ctrust_as hS ha, s_ctrust_ln hS ha, s_crot_al hS ha, s_crot_as hS ha, s_crot_ln hS ha, s_chands_al hS ha, s_chands_as hS ha, s_chands_ln hS ha, s_cto_al hS ha, s_cto_as hS ha, s_cto_ln hS ha, s_cends_al hS ha, s_cends_as hS ha, s_cends_ln hS ha, s_cret_al hS ha, s_cret_as hS ha, s_cret_ln hS ha, s_ccrew_al hS ha, s_ccrew_as hS ha, s_ccrew_ln hS ha, s_cL_gi hS ha, s_cL_gL hS ha, s_cL_pi hS ha, s_cL_pL hS ha, s_cL_gS hS ha, s_clcosts_al hS ha, s_clcosts_as hS ha, s_clcosts_ln hS ha, s_clcomers_al hS ha, s_clcomers_as hS ha, s_clcomers_ln hS ha, s_clleavers_al hS ha, s_clleavers_as hS ha, s_clleavers_ln hS ha, s_clengs_al hS ha, s_clengs_as hS ha, s_clengs_ln hS ha, s_cltimes_al hS ha, s_cltimes_as hS ha, s_cltimes_ln hS ha, s_clcrews_al hS ha, s_clcrews_as hS ha, s_clcrews_ln hS ha, s_cbest_al hS ha, s_cbest_as hS ha, s_cbest_ln hS ha, s_plost hS ha, s_pout hS ha, s_ppaid hS ha, s_ptrust hS ha, s_prot hS ha, s_phands hS ha, s_pto hS ha, s_pends hS ha, s_pret hS ha, s_pcrew hS ha, s_plog hS ha, s_plcosts hS ha, s_plcomers hS ha, s_plleavers hS ha, s_plengs hS ha, s_pltimes hS ha, s_plcrews hS ha, s_pbest hS ha, p_cP_gi hS hP, p_cP_gL hS hP, p_cP_pi hS hP, p_cP_pL hS hP, p_cP_gS hS hP, p_cN_gi hS hP, p_cN_gL hS hP, p_cN_pi hS hP, p_cN_pL hS hP, p_cN_gS hS hP, p_cps_ln hS hP, p_ctr_al hS hP, p_ctr_as hS hP, p_ctr_ln hS hP, p_cgs_ln hS hP, p_ces_ln hS hP, p_cks_ln hS hP, p_cable_al hS hP, p_cable_as hS hP, p_cable_ln hS hP, p_pN hS hP, p_pps hS hP, p_ptr hS hP, p_pgs hS hP, p_pes hS hP, p_pks hS hP, p_pable hS hP, p_ep_al hS hP, p_ep_gi hS hP, p_ep_gL hS hP, p_ep_pi hS hP, p_ep_pL hS hP, p_ep_gS hS hP, p_eg_al hS hP, p_eg_gi hS hP, p_eg_gL hS hP, p_eg_pi hS hP, p_eg_pL hS hP, p_eg_gS hS hP, p_egr_p hS hP, p_egr_al hS hP, p_egr_as hS hP, p_egr_ln hS hP, p_ee_al hS hP, p_ee_gi hS hP, p_ee_gL hS hP, p_ee_pi hS hP, p_ee_pL hS hP, p_ee_gS hS hP, p_ees_p hS hP, p_ees_al hS hP, p_ees_as hS hP, p_ees_ln hS hP, p_eed_p hS hP, p_eed_al hS hP, p_eed_as hS hP, p_eed_ln hS hP, p_ek_al hS hP, p_ek_gi hS hP, p_ek_gL hS hP, p_ek_pi hS hP, p_ek_pL hS hP, p_ek_gS hS hP, p_ekg_p hS hP, p_ekg_al hS hP, p_ekg_as hS hP, p_ekg_ln hS hP, p_eke_p hS hP, p_eke_al hS hP, p_eke_as hS hP, p_eke_ln hS hP, I.g3, b2i_0, I.needPerson, I.needPager, I.needEngine, I.needKind, I.needCall, I.needTwo, IV.needSlot, c, c_pslots hS, al, s_cS_gS hS ha2, e1, c_phi S1, c_pfill S1, w3]
    · exact ⟨by show h_nx h ≤ h_nx h1; omega, by show h_nx h1 ≤ _; omega, by show h_sl h1 ≤ _; omega, fun o _ => ⟨by show h_sh h1 o = _; rw [c3], by show h_ln h1 o = _; rw [c4]⟩, fun o ho => iv o (by omega) (by omega), fun o k q1 q2 => rv o k (by omega), fun o k _ => by show h_lv h1 o k = _; rw [c5]⟩
    · refine ⟨S1.si _ _ _, I.pls, by rw [rv _ _ (by omega)]; exact I.pl, by rw [rv _ _ (by omega)]; exact I.sp, pe.pld hD, pe.plr (y.keep (fun o q1 q2 => iv o (by omega) (by omega)) hD), by rw [e413]; exact pe.rwb I.RB, by rw [e413]; exact pe.str (stk (Or.inl rfl) x), by rw [e6, iv _ (by omega) (by omega)]; exact I.kc, fun i hi => by rw [rv _ _ (by omega)]; exact I.kA i hi, fun i j hi hj => by rw [rv _ _ (by omega), rv _ _ (by omega)]; exact I.kI i j hi hj, fun i hi => ?_, fun s' hs' => ?_, by rw [e6, eo 435 (by decide) (by decide), iv _ (by omega) (by omega), iv _ (by omega) (by omega)]; exact I.tx⟩
      · rw [e6] at hi
        obtain ⟨m, m1, m2⟩ := I.kA i (Nat.lt_of_lt_of_le hi I.kc.2)
        rw [rv _ _ (by omega), e414]
        exact ⟨pe.rwb (I.kp i hi).1, pe.str (stk (Or.inr (by omega)) (I.kp i hi).2)⟩
      · by_cases es : s' = s
        · subst es
          refine ⟨by rw [si_at, svT_3, if_pos rfl], by rw [svT_3, if_pos rfl]; decide, fun _ => ⟨pe.rwb newB, pe.str ?_⟩⟩
          rw [← hae]
          exact (x1.ext hD hR new).keep (fun o q1 q2 => funext fun j => si_ne (by omega)) rfl
        · obtain ⟨b1, b2, b3⟩ := I.sl s' hs'
          have e1 : rw4 (svT T s) 415 s' = rw4 T 415 s' := funext fun j => by
            unfold rw4
            by_cases cj : j < 603
            · rw [if_pos cj, if_pos cj, svT_1, if_neg (by omega)]
            · rw [if_neg cj, if_neg cj]
          rw [svT_3, if_neg es, e1, si_ne (by omega), c6 _ (by omega)]
          exact ⟨b1, b2, fun e => ⟨pe.rwb (b3 e).1, pe.str (stk (Or.inr (by omega)) (b3 e).2)⟩⟩
    · have S0 : Sh (h_si g1 412 0 (nI 0)) := S1.si _ _ _
      have key : OK (aL1 (m_X12_save_L21 412 (nI s) fun h4 => some ((), h4)) FU (nI 0) (h_si g1 412 0 (nI 0))) (fun _ h2 => h_iv h2 412 0 = nI 0 ∧ RK g1 h2 ∧ RefR h2 (svT T s)) := by
        refine r_saveL (R := fun o => OK o _) S0 si_at hs (fun g2 F2 v1 v3 => ok_ret ⟨by rw [F2.iv (by omega), si_at], ?_, fun o k q => ?_, fun o k => ?_⟩)
        · exact RK.rz.trans (RK.fx F2 (fun o k q => by omega))
        · by_cases c8 : o = 415
          · rw [c8, v1 k, svT_1]
            by_cases c9 : 603 * s ≤ k ∧ k < 603 * s + 603
            · rw [if_pos c9, if_pos c9, si_ne (by omega)]; exact z1.c413 _
            · rw [if_neg c9, if_neg c9, si_ne (by omega)]; exact z1.c415 _
          · by_cases c7 : o = 417
            · rw [c7, v3 k, svT_3]
              by_cases c9 : k = s
              · rw [if_pos c9, if_pos c9]
              · rw [if_neg c9, if_neg c9, si_ne (by omega)]; exact z1.c417 _
            · rw [eo o c8 c7, F2.iv (by omega), si_ne (by unfold rfC at q; omega)]; exact z1.1 o k q
        · by_cases c8 : o = 415
          · rw [c8, svT_1]; split <;> exact z1.2 _ _
          · by_cases c7 : o = 417
            · rw [c7, svT_3]
              split
              · decide
              · exact z1.2 _ _
            · rw [eo o c8 c7]; exact z1.2 o k
      simp (maxSteps := 3000000) (disch := first | assumption | omega | exact hR.all _) only [m_X12_save, bO_v, bR_v, bX_l, bX_r, bC_l, bC_r, aJ_v, aLet_v, nI_add, pk_mul, dvI_n, rmI_n, iMax_n, iMin_n, zO_0, zO_1, li_0, li_1, li_2, li_3, li_4, li_5, li_6, li_7, li_8, li_9, li_10, li_12, li_14, li_15, li_16, li_18, li_19, li_20, li_22, li_23, li_24, li_26, li_29, li_30, li_31, li_32, li_36, li_38, li_48, li_50, li_57, li_58, li_59, li_60, li_63, li_97, li_99, li_120, li_122, li_144, li_168, li_194, li_240, li_255, li_284, li_299, li_603, li_999, li_1200, li_1440, li_4095, li_4096, li_6030, li_16384, li_20160, zl0, zl1, zl2, zl3, zl4, ze01, ze02, ze03, ze04, ze10, ze12, ze13, ze14, ze20, ze21, ze23, ze24, ze30, ze31, ze32, ze34, ze40, ze41, ze42, ze43, zt0, zt1, zt2, zt3, zt4, zq0, zq1, zq2, zq3, zq4, it_t, it_f, Bool.true_eq_false, Bool.false_eq_true, na5, na4, na1441, na2, na10, sx_IOIA, sx_IOIS, sx_IONS, sx_IAIO, sx_IAIS, sx_IANS, sx_ISIO, sx_ISIA, sx_ISNS, sx_NSIO, sx_NSIA, sx_NSIS, r_in1, c, b2i_0, r_cM_pi S1]
      exact key
theorem r_restoreL (hS : Sh h) (h0 : h_iv h 412 0 = nI 0) {s : Nat} (hs : s < 2) {k77 : aH → Option (Unit × aH)} {R : Option (Unit × aH) → Prop} (hk : ∀ h1, Fx (fun o k => o = 413 ∨ (o = 412 ∧ k = 6)) h h1 → (∀ k, h_iv h1 413 k = if k < 603 then h_iv h 415 (603 * s + k) else h_iv h 413 k) → h_iv h1 412 6 = nI 0 → R (k77 h1)) : R (aL1 (m_X12_restore_L34 412 (nI s) k77) FU (nI 0) h) := by
  refine aL1_run (fun m s1 h1 => ∃ i, i ≤ 603 ∧ m = 603 - i ∧ s1 = nI i ∧ Fx (fun o k => o = 413 ∨ (o = 412 ∧ k = 6)) h h1 ∧ (∀ k, h_iv h1 413 k = if k < i then h_iv h 415 (603 * s + k) else h_iv h 413 k) ∧ (0 < i → h_iv h1 412 6 = nI 0)) ⟨0, Nat.zero_le _, rfl, rfl, Fx.rf, fun k => by rw [if_neg (by omega)], fun q => absurd q (by decide)⟩ (by omega) ?_
  rintro rec m s1 h1 ⟨i, hi, rfl, rfl, hF, hv, hv6⟩ ih
  have S1 := hF.sh hS
  have z1 : h_iv h1 412 0 = nI 0 := by rw [hF.iv (by omega)]; exact h0
  by_cases hlt : i < 603
  · have e : ∀ k, h_iv h1 415 k = h_iv h 415 k := fun k => hF.iv (by omega)
    have S2 : Sh (h_si h1 413 i (h_iv h 415 (603 * s + i))) := S1.si _ _ _
    simp (maxSteps := 3000000) (disch := first | assumption | omega) only [m_X12_restore_L34, bO_v, bR_v, bX_l, bX_r, bC_l, bC_r, aJ_v, aLet_v, nI_add, pk_mul, dvI_n, rmI_n, iMax_n, iMin_n, zO_0, zO_1, li_0, li_1, li_2, li_3, li_4, li_5, li_6, li_7, li_8, li_9, li_10, li_12, li_14, li_15, li_16, li_18, li_19, li_20, li_22, li_23, li_24, li_26, li_29, li_30, li_31, li_32, li_36, li_38, li_48, li_50, li_57, li_58, li_59, li_60, li_63, li_97, li_99, li_120, li_122, li_144, li_168, li_194, li_240, li_255, li_284, li_299, li_603, li_999, li_1200, li_1440, li_4095, li_4096, li_6030, li_16384, li_20160, zl0, zl1, zl2, zl3, zl4, ze01, ze02, ze03, ze04, ze10, ze12, ze13, ze14, ze20, ze21, ze23, ze24, ze30, ze31, ze32, ze34, ze40, ze41, ze42, ze43, zt0, zt1, zt2, zt3, zt4, zq0, zq1, zq2, zq3, zq4, it_t, it_f, Bool.true_eq_false, Bool.false_eq_true, na5, na4, na1441, na2, na10, sx_IOIA, sx_IOIS, sx_IONS, sx_IAIO, sx_IAIS, sx_IANS, sx_ISIO, sx_ISIA, sx_ISNS, sx_NSIO, sx_NSIA, sx_NSIS, r_cM_gi S1, z1, r_p415 S1, r_p413 S1, r_c415_al S1, e, r_c413_as S1, r_cM_pi S2, nI_ltI]
    rw [if_pos hlt]
    refine ih _ _ _ (by omega) ⟨i + 1, hlt, rfl, rfl, (hF.trans (Fx.si (Or.inl rfl))).trans (Fx.si (Or.inr ⟨rfl, rfl⟩)), fun k => ?_, fun _ => si_at⟩
    rw [si_ne (by omega)]
    by_cases c : k = i
    · rw [c, si_at, if_pos (by omega)]
    · rw [si_ne (by omega), hv k]
      by_cases c2 : k < i
      · rw [if_pos c2, if_pos (by omega)]
      · rw [if_neg c2, if_neg (by omega)]
  · obtain rfl : i = 603 := by omega
    simp (maxSteps := 3000000) (disch := first | assumption | omega) only [m_X12_restore_L34, bO_v, bR_v, bX_l, bX_r, bC_l, bC_r, aLet_v, nI_add, pk_mul, dvI_n, rmI_n, iMax_n, iMin_n, zO_0, zO_1, li_0, li_1, li_2, li_3, li_4, li_5, li_6, li_7, li_8, li_9, li_10, li_12, li_14, li_15, li_16, li_18, li_19, li_20, li_22, li_23, li_24, li_26, li_29, li_30, li_31, li_32, li_36, li_38, li_48, li_50, li_57, li_58, li_59, li_60, li_63, li_97, li_99, li_120, li_122, li_144, li_168, li_194, li_240, li_255, li_284, li_299, li_603, li_999, li_1200, li_1440, li_4095, li_4096, li_6030, li_16384, li_20160, zl0, zl1, zl2, zl3, zl4, ze01, ze02, ze03, ze04, ze10, ze12, ze13, ze14, ze20, ze21, ze23, ze24, ze30, ze31, ze32, ze34, ze40, ze41, ze42, ze43, zt0, zt1, zt2, zt3, zt4, zq0, zq1, zq2, zq3, zq4, it_t, it_f, Bool.true_eq_false, Bool.false_eq_true, na5, na4, na1441, na2, na10, sx_IOIA, sx_IOIS, sx_IONS, sx_IAIO, sx_IAIS, sx_IANS, sx_ISIO, sx_ISIA, sx_ISNS, sx_NSIO, sx_NSIA, sx_NSIS, nI_ltI]
    rw [if_neg hlt]
    exact hk h1 hF hv (hv6 (by decide))
theorem q_restore (I : IV h T P Q) (s : Int32) : QS h (m_L_restore 1 s h) (m_X12_restore 412 s) := by
  have hS := I.sh
  have hD := I.D
  have hR := I.R
  have hP := I.hP
  have y := I.y
  have d0 := hD.nP
  have d1 := hD.nG
  have d2 := hD.nE
  have d3 := hD.nK
  have d4 := hR.tm
  have d5 := I.RB.2.2
  have ha : 134 ∈ stL := by decide
  have x := I.x
  have p8 : kpT T 412 8 = T 412 8 := kpT_pe.1
  have p9 : kpT T 412 9 = T 412 9 := kpT_pe.2.1
  have p10 : kpT T 412 10 = T 412 10 := kpT_pe.2.2.1
  have n10 : ¬ nI 1 = nI 0 := by decide
  have n20 : ¬ nI 2 = nI 0 := by decide
  have EX : ∀ k h1, (k = 1 ∨ k = 2) → Sh h1 → aL1 (m_X12_restore_L34 412 s fun h4 => some ((), h4)) FU (nI 0) (h_si h1 412 0 (nI k)) = some ((), h_si h1 412 0 (nI k)) := fun k h1 hk S1 => by
    have S0 : Sh (h_si h1 412 0 (nI k)) := S1.si _ _ _
    refine aL1_run (R := fun o => o = some ((), h_si h1 412 0 (nI k))) (fun m s1 h2 => h2 = h_si h1 412 0 (nI k) ∧ s1 = nI 0) (m := 0) ⟨rfl, rfl⟩ (by decide) ?_
    rintro rec m s1 h2 ⟨rfl, rfl⟩ -
    rcases hk with rfl | rfl
    · simp (maxSteps := 3000000) (disch := first | assumption | omega | exact hR.all _) only [m_X12_restore_L34, bO_v, bR_v, bX_l, bX_r, bC_l, bC_r, aJ_v, aLet_v, nI_add, pk_mul, dvI_n, rmI_n, iMax_n, iMin_n, zO_0, zO_1, li_0, li_1, li_2, li_3, li_4, li_5, li_6, li_7, li_8, li_9, li_10, li_12, li_14, li_15, li_16, li_18, li_19, li_20, li_22, li_23, li_24, li_26, li_29, li_30, li_31, li_32, li_36, li_38, li_48, li_50, li_57, li_58, li_59, li_60, li_63, li_97, li_99, li_120, li_122, li_144, li_168, li_194, li_240, li_255, li_284, li_299, li_603, li_999, li_1200, li_1440, li_4095, li_4096, li_6030, li_16384, li_20160, zl0, zl1, zl2, zl3, zl4, ze01, ze02, ze03, ze04, ze10, ze12, ze13, ze14, ze20, ze21, ze23, ze24, ze30, ze31, ze32, ze34, ze40, ze41, ze42, ze43, zt0, zt1, zt2, zt3, zt4, zq0, zq1, zq2, zq3, zq4, it_t, it_f, Bool.true_eq_false, Bool.false_eq_true, na5, na4, na1441, na2, na10, sx_IOIA, sx_IOIS, sx_IONS, sx_IAIO, sx_IAIS, sx_IANS, sx_ISIO, sx_ISIA, sx_ISNS, sx_NSIO, sx_NSIA, sx_NSIS, rz_gi S1, n10]
      split <;> rfl
    · simp (maxSteps := 3000000) (disch := first | assumption | omega | exact hR.all _) only [m_X12_restore_L34, bO_v, bR_v, bX_l, bX_r, bC_l, bC_r, aJ_v, aLet_v, nI_add, pk_mul, dvI_n, rmI_n, iMax_n, iMin_n, zO_0, zO_1, li_0, li_1, li_2, li_3, li_4, li_5, li_6, li_7, li_8, li_9, li_10, li_12, li_14, li_15, li_16, li_18, li_19, li_20, li_22, li_23, li_24, li_26, li_29, li_30, li_31, li_32, li_36, li_38, li_48, li_50, li_57, li_58, li_59, li_60, li_63, li_97, li_99, li_120, li_122, li_144, li_168, li_194, li_240, li_255, li_284, li_299, li_603, li_999, li_1200, li_1440, li_4095, li_4096, li_6030, li_16384, li_20160, zl0, zl1, zl2, zl3, zl4, ze01, ze02, ze03, ze04, ze10, ze12, ze13, ze14, ze20, ze21, ze23, ze24, ze30, ze31, ze32, ze34, ze40, ze41, ze42, ze43, zt0, zt1, zt2, zt3, zt4, zq0, zq1, zq2, zq3, zq4, it_t, it_f, Bool.true_eq_false, Bool.false_eq_true, na5, na4, na1441, na2, na10, sx_IOIA, sx_IOIS, sx_IONS, sx_IAIO, sx_IAIS, sx_IANS, sx_ISIO, sx_ISIA, sx_ISNS, sx_NSIO, sx_NSIA, sx_NSIS, rz_gi S1, n20]
      split <;> rfl
  cases c : inr s 2
  · refine qs_exc (k := 1) I (by decide) ?_ (fun h1 I1 => ?_)
    · simp (maxSteps := 3000000) (disch := first | assumption | omega | exact hR.all _) only [m_L_restore, m_X11_restore, bO_v, bR_v, bX_l, bX_r, bC_l, bC_r, aJ_v, aLet_v, nI_add, pk_mul, dvI_n, rmI_n, iMax_n, iMin_n, zO_0, zO_1, li_0, li_1, li_2, li_3, li_4, li_5, li_6, li_7, li_8, li_9, li_10, li_12, li_14, li_15, li_16, li_18, li_19, li_20, li_22, li_23, li_24, li_26, li_29, li_30, li_31, li_32, li_36, li_38, li_48, li_50, li_57, li_58, li_59, li_60, li_63, li_97, li_99, li_120, li_122, li_144, li_168, li_194, li_240, li_255, li_284, li_299, li_603, li_999, li_1200, li_1440, li_4095, li_4096, li_6030, li_16384, li_20160, zl0, zl1, zl2, zl3, zl4, ze01, ze02, ze03, ze04, ze10, ze12, ze13, ze14, ze20, ze21, ze23, ze24, ze30, ze31, ze32, ze34, ze40, ze41, ze42, ze43, zt0, zt1, zt2, zt3, zt4, zq0, zq1, zq2, zq3, zq4, it_t, it_f, Bool.true_eq_false, Bool.false_eq_true, na5, na4, na1441, na2, na10, sx_IOIA, sx_IOIS, sx_IONS, sx_IAIO, sx_IAIS, sx_IANS, sx_ISIO, sx_ISIA, sx_ISNS, sx_NSIO, sx_NSIA, sx_NSIS, c_cX_gS hS, c_cX_gi hS, c_pst hS, c_phi hS, c_cH_gS hS, c_pmu hS, s_cS_gi hS ha, s_cS_gL hS ha, s_cS_pi hS ha, s_cS_pL hS ha, s_cS_gS hS ha, s_clost_al hS ha, s_clost_as hS ha, s_clost_ln hS ha, s_cout_al hS ha, s_cout_as hS ha, s_cout_ln hS ha, s_cpaid_al hS ha, s_cpaid_as hS ha, s_cpaid_ln hS ha, s_ctrust_al hS ha, s_ctrust_as hS ha, s_ctrust_ln hS ha, s_crot_al hS ha, s_crot_as hS ha, s_crot_ln hS ha, s_chands_al hS ha, s_chands_as hS ha, s_chands_ln hS ha, s_cto_al hS ha, s_cto_as hS ha, s_cto_ln hS ha, s_cends_al hS ha, s_cends_as hS ha, s_cends_ln hS ha, s_cret_al hS ha, s_cret_as hS ha, s_cret_ln hS ha, s_ccrew_al hS ha, s_ccrew_as hS ha, s_ccrew_ln hS ha, s_cL_gi hS ha, s_cL_gL hS ha, s_cL_pi hS ha, s_cL_pL hS ha, s_cL_gS hS ha, s_clcosts_al hS ha, s_clcosts_as hS ha, s_clcosts_ln hS ha, s_clcomers_al hS ha, s_clcomers_as hS ha, s_clcomers_ln hS ha, s_clleavers_al hS ha, s_clleavers_as hS ha, s_clleavers_ln hS ha, s_clengs_al hS ha, s_clengs_as hS ha, s_clengs_ln hS ha, s_cltimes_al hS ha, s_cltimes_as hS ha, s_cltimes_ln hS ha, s_clcrews_al hS ha, s_clcrews_as hS ha, s_clcrews_ln hS ha, s_cbest_al hS ha, s_cbest_as hS ha, s_cbest_ln hS ha, s_plost hS ha, s_pout hS ha, s_ppaid hS ha, s_ptrust hS ha, s_prot hS ha, s_phands hS ha, s_pto hS ha, s_pends hS ha, s_pret hS ha, s_pcrew hS ha, s_plog hS ha, s_plcosts hS ha, s_plcomers hS ha, s_plleavers hS ha, s_plengs hS ha, s_pltimes hS ha, s_plcrews hS ha, s_pbest hS ha, p_cP_gi hS hP, p_cP_gL hS hP, p_cP_pi hS hP, p_cP_pL hS hP, p_cP_gS hS hP, p_cN_gi hS hP, p_cN_gL hS hP, p_cN_pi hS hP, p_cN_pL hS hP, p_cN_gS hS hP, p_cps_ln hS hP, p_ctr_al hS hP, p_ctr_as hS hP, p_ctr_ln hS hP, p_cgs_ln hS hP, p_ces_ln hS hP, p_cks_ln hS hP, p_cable_al hS hP, p_cable_as hS hP, p_cable_ln hS hP, p_pN hS hP, p_pps hS hP, p_ptr hS hP, p_pgs hS hP, p_pes hS hP, p_pks hS hP, p_pable hS hP, p_ep_al hS hP, p_ep_gi hS hP, p_ep_gL hS hP, p_ep_pi hS hP, p_ep_pL hS hP, p_ep_gS hS hP, p_eg_al hS hP, p_eg_gi hS hP, p_eg_gL hS hP, p_eg_pi hS hP, p_eg_pL hS hP, p_eg_gS hS hP, p_egr_p hS hP, p_egr_al hS hP, p_egr_as hS hP, p_egr_ln hS hP, p_ee_al hS hP, p_ee_gi hS hP, p_ee_gL hS hP, p_ee_pi hS hP, p_ee_pL hS hP, p_ee_gS hS hP, p_ees_p hS hP, p_ees_al hS hP, p_ees_as hS hP, p_ees_ln hS hP, p_eed_p hS hP, p_eed_al hS hP, p_eed_as hS hP, p_eed_ln hS hP, p_ek_al hS hP, p_ek_gi hS hP, p_ek_gL hS hP, p_ek_pi hS hP, p_ek_pL hS hP, p_ek_gS hS hP, p_ekg_p hS hP, p_ekg_al hS hP, p_ekg_as hS hP, p_ekg_ln hS hP, p_eke_p hS hP, p_eke_al hS hP, p_eke_as hS hP, p_eke_ln hS hP, I.g3, b2i_0, I.needPerson, I.needPager, I.needEngine, I.needKind, I.needCall, I.needTwo, IV.needSlot, c]
    · have S1 := I1.sh
      refine ⟨(), h_si h1 412 0 (nI 1), ?_, QF.si (by unfold SQ; omega), si_at⟩
      simp (maxSteps := 3000000) (disch := first | assumption | omega | exact hR.all _) only [m_X12_restore, bO_v, bR_v, bX_l, bX_r, bC_l, bC_r, aJ_v, aLet_v, nI_add, pk_mul, dvI_n, rmI_n, iMax_n, iMin_n, zO_0, zO_1, li_0, li_1, li_2, li_3, li_4, li_5, li_6, li_7, li_8, li_9, li_10, li_12, li_14, li_15, li_16, li_18, li_19, li_20, li_22, li_23, li_24, li_26, li_29, li_30, li_31, li_32, li_36, li_38, li_48, li_50, li_57, li_58, li_59, li_60, li_63, li_97, li_99, li_120, li_122, li_144, li_168, li_194, li_240, li_255, li_284, li_299, li_603, li_999, li_1200, li_1440, li_4095, li_4096, li_6030, li_16384, li_20160, zl0, zl1, zl2, zl3, zl4, ze01, ze02, ze03, ze04, ze10, ze12, ze13, ze14, ze20, ze21, ze23, ze24, ze30, ze31, ze32, ze34, ze40, ze41, ze42, ze43, zt0, zt1, zt2, zt3, zt4, zq0, zq1, zq2, zq3, zq4, it_t, it_f, Bool.true_eq_false, Bool.false_eq_true, na5, na4, na1441, na2, na10, sx_IOIA, sx_IOIS, sx_IONS, sx_IAIO, sx_IAIS, sx_IANS, sx_ISIO, sx_ISIA, sx_ISNS, sx_NSIO, sx_NSIA, sx_NSIS, r_cM_gS S1, r_cM_pi S1, rz_gi S1, r_p413 S1, r_c413_al S1, r_isPerson S1 I1.z hD, r_isPager S1 I1.z hD, r_isKind S1 I1.z hD, r_isCouple S1 I1.z hD, b2i_0, nI_leI, r_in1, c, EX 1 h1 (Or.inl rfl) S1]
  · obtain ⟨s, hs, rfl⟩ := inr_t c (by decide)
    obtain ⟨b1, b2, b3⟩ := I.sl s hs
    by_cases c2 : T 417 s = 0
    · refine qs_exc (k := 2) I (by decide) ?_ (fun h1 I1 => ?_)
      · simp (maxSteps := 3000000) (disch := first | assumption | omega | exact hR.all _) only [m_L_restore, m_X11_restore, bO_v, bR_v, bX_l, bX_r, bC_l, bC_r, aJ_v, aLet_v, nI_add, pk_mul, dvI_n, rmI_n, iMax_n, iMin_n, zO_0, zO_1, li_0, li_1, li_2, li_3, li_4, li_5, li_6, li_7, li_8, li_9, li_10, li_12, li_14, li_15, li_16, li_18, li_19, li_20, li_22, li_23, li_24, li_26, li_29, li_30, li_31, li_32, li_36, li_38, li_48, li_50, li_57, li_58, li_59, li_60, li_63, li_97, li_99, li_120, li_122, li_144, li_168, li_194, li_240, li_255, li_284, li_299, li_603, li_999, li_1200, li_1440, li_4095, li_4096, li_6030, li_16384, li_20160, zl0, zl1, zl2, zl3, zl4, ze01, ze02, ze03, ze04, ze10, ze12, ze13, ze14, ze20, ze21, ze23, ze24, ze30, ze31, ze32, ze34, ze40, ze41, ze42, ze43, zt0, zt1, zt2, zt3, zt4, zq0, zq1, zq2, zq3, zq4, it_t, it_f, Bool.true_eq_false, Bool.false_eq_true, na5, na4, na1441, na2, na10, sx_IOIA, sx_IOIS, sx_IONS, sx_IAIO, sx_IAIS, sx_IANS, sx_ISIO, sx_ISIA, sx_ISNS, sx_NSIO, sx_NSIA, sx_NSIS, c_cX_gS hS, c_cX_gi hS, c_pst hS, c_phi hS, c_cH_gS hS, c_pmu hS, s_cS_gi hS ha, s_cS_gL hS ha, s_cS_pi hS ha, s_cS_pL hS ha, s_cS_gS hS ha, s_clost_al hS ha, s_clost_as hS ha, s_clost_ln hS ha, s_cout_al hS ha, s_cout_as hS ha, s_cout_ln hS ha, s_cpaid_al hS ha, s_cpaid_as hS ha, s_cpaid_ln hS ha, s_ctrust_al hS ha, s_ctrust_as hS ha, s_ctrust_ln hS ha, s_crot_al hS ha, s_crot_as hS ha, s_crot_ln hS ha, s_chands_al hS ha, s_chands_as hS ha, s_chands_ln hS ha, s_cto_al hS ha, s_cto_as hS ha, s_cto_ln hS ha, s_cends_al hS ha, s_cends_as hS ha, s_cends_ln hS ha, s_cret_al hS ha, s_cret_as hS ha, s_cret_ln hS ha, s_ccrew_al hS ha, s_ccrew_as hS ha, s_ccrew_ln hS ha, s_cL_gi hS ha, s_cL_gL hS ha, s_cL_pi hS ha, s_cL_pL hS ha, s_cL_gS hS ha, s_clcosts_al hS ha, s_clcosts_as hS ha, s_clcosts_ln hS ha, s_clcomers_al hS ha, s_clcomers_as hS ha, s_clcomers_ln hS ha, s_clleavers_al hS ha, s_clleavers_as hS ha, s_clleavers_ln hS ha, s_clengs_al hS ha, s_clengs_as hS ha, s_clengs_ln hS ha, s_cltimes_al hS ha, s_cltimes_as hS ha, s_cltimes_ln hS ha, s_clcrews_al hS ha, s_clcrews_as hS ha, s_clcrews_ln hS ha, s_cbest_al hS ha, s_cbest_as hS ha, s_cbest_ln hS ha, s_plost hS ha, s_pout hS ha, s_ppaid hS ha, s_ptrust hS ha, s_prot hS ha, s_phands hS ha, s_pto hS ha, s_pends hS ha, s_pret hS ha, s_pcrew hS ha, s_plog hS ha, s_plcosts hS ha, s_plcomers hS ha, s_plleavers hS ha, s_plengs hS ha, s_pltimes hS ha, s_plcrews hS ha, s_pbest hS ha, p_cP_gi hS hP, p_cP_gL hS hP, p_cP_pi hS hP, p_cP_pL hS hP, p_cP_gS hS hP, p_cN_gi hS hP, p_cN_gL hS hP, p_cN_pi hS hP, p_cN_pL hS hP, p_cN_gS hS hP, p_cps_ln hS hP, p_ctr_al hS hP, p_ctr_as hS hP, p_ctr_ln hS hP, p_cgs_ln hS hP, p_ces_ln hS hP, p_cks_ln hS hP, p_cable_al hS hP, p_cable_as hS hP, p_cable_ln hS hP, p_pN hS hP, p_pps hS hP, p_ptr hS hP, p_pgs hS hP, p_pes hS hP, p_pks hS hP, p_pable hS hP, p_ep_al hS hP, p_ep_gi hS hP, p_ep_gL hS hP, p_ep_pi hS hP, p_ep_pL hS hP, p_ep_gS hS hP, p_eg_al hS hP, p_eg_gi hS hP, p_eg_gL hS hP, p_eg_pi hS hP, p_eg_pL hS hP, p_eg_gS hS hP, p_egr_p hS hP, p_egr_al hS hP, p_egr_as hS hP, p_egr_ln hS hP, p_ee_al hS hP, p_ee_gi hS hP, p_ee_gL hS hP, p_ee_pi hS hP, p_ee_pL hS hP, p_ee_gS hS hP, p_ees_p hS hP, p_ees_al hS hP, p_ees_as hS hP, p_ees_ln hS hP, p_eed_p hS hP, p_eed_al hS hP, p_eed_as hS hP, p_eed_ln hS hP, p_ek_al hS hP, p_ek_gi hS hP, p_ek_gL hS hP, p_ek_pi hS hP, p_ek_pL hS hP, p_ek_gS hS hP, p_ekg_p hS hP, p_ekg_al hS hP, p_ekg_as hS hP, p_ekg_ln hS hP, p_eke_p hS hP, p_eke_al hS hP, p_eke_as hS hP, p_eke_ln hS hP, I.g3, b2i_0, I.needPerson, I.needPager, I.needEngine, I.needKind, I.needCall, I.needTwo, IV.needSlot, c, c_pfill hS, c_cfill_al hS, b1, nI_eq, c2]
      · have S1 := I1.sh
        refine ⟨(), h_si h1 412 0 (nI 2), ?_, QF.si (by unfold SQ; omega), si_at⟩
        simp (maxSteps := 3000000) (disch := first | assumption | omega | exact hR.all _) only [m_X12_restore, bO_v, bR_v, bX_l, bX_r, bC_l, bC_r, aJ_v, aLet_v, nI_add, pk_mul, dvI_n, rmI_n, iMax_n, iMin_n, zO_0, zO_1, li_0, li_1, li_2, li_3, li_4, li_5, li_6, li_7, li_8, li_9, li_10, li_12, li_14, li_15, li_16, li_18, li_19, li_20, li_22, li_23, li_24, li_26, li_29, li_30, li_31, li_32, li_36, li_38, li_48, li_50, li_57, li_58, li_59, li_60, li_63, li_97, li_99, li_120, li_122, li_144, li_168, li_194, li_240, li_255, li_284, li_299, li_603, li_999, li_1200, li_1440, li_4095, li_4096, li_6030, li_16384, li_20160, zl0, zl1, zl2, zl3, zl4, ze01, ze02, ze03, ze04, ze10, ze12, ze13, ze14, ze20, ze21, ze23, ze24, ze30, ze31, ze32, ze34, ze40, ze41, ze42, ze43, zt0, zt1, zt2, zt3, zt4, zq0, zq1, zq2, zq3, zq4, it_t, it_f, Bool.true_eq_false, Bool.false_eq_true, na5, na4, na1441, na2, na10, sx_IOIA, sx_IOIS, sx_IONS, sx_IAIO, sx_IAIS, sx_IANS, sx_ISIO, sx_ISIA, sx_ISNS, sx_NSIO, sx_NSIA, sx_NSIS, r_cM_gS S1, r_cM_pi S1, rz_gi S1, r_p413 S1, r_c413_al S1, r_isPerson S1 I1.z hD, r_isPager S1 I1.z hD, r_isKind S1 I1.z hD, r_isCouple S1 I1.z hD, b2i_0, nI_leI, r_in1, c, r_p417 S1, r_c417_al S1, I1.z.c417, nI_eq, c2, EX 2 h1 (Or.inr rfl) S1]
    · obtain ⟨sB, sS⟩ := b3 (by omega)
      obtain ⟨a, ha2, hae⟩ : ∃ a, a ∈ stL ∧ a = 374 + 19 * s := ⟨_, (by
        have hd : ∀ s, s < 2 → 374 + 19 * s ∈ stL := by decide
        exact hd s hs), rfl⟩
      rw [← hae] at sS
      have ptr : h_rv h 182 s = a := by
        have hd : ∀ s, s < 2 → (182, s, 374 + 19 * s) ∈ ptL := by decide +kernel
        rw [hae]
        exact hS.2.2 _ (hd s hs)
      have al : alr h 5 182 (nI s) = some a := alr_ok (c_cslots hS).1 (c_cslots hS).2 hs (by omega) ptr (st_ne0 a ha2)
      obtain ⟨_, h1, e1, S1, C1, x1⟩ := k_copyFrom hS ha2 ha (by omega) hP sS hD sB.1
      have back := I.c.back (U := 0) (S := rwX T 415 s) S1 C1 (g := h_si h1 180 0 (nI 0)) rfl (Nat.zero_le _) (rwX_B hD hR sB) (x1.ext hD sB.1 (fun j hj => rwX_g hj))
      refine qs_chg (T' := setW (setU T 0) (rwX T 415 s)) I (nm_uw _ _) (hE := h_si h1 180 0 (nI 0)) ?_ back.1 back.2 (fun g1 S1 z1 => ?_)
      · simp (maxSteps := 3000000) (disch := first | assumption | omega | exact hR.all _) only [m_L_restore, m_X11_restore, bO_v, bR_v, bX_l, bX_r, bC_l, bC_r, aJ_v, aLet_v, nI_add, pk_mul, dvI_n, rmI_n, iMax_n, iMin_n, zO_0, zO_1, li_0, li_1, li_2, li_3, li_4, li_5, li_6, li_7, li_8, li_9, li_10, li_12, li_14, li_15, li_16, li_18, li_19, li_20, li_22, li_23, li_24, li_26, li_29, li_30, li_31, li_32, li_36, li_38, li_48, li_50, li_57, li_58, li_59, li_60, li_63, li_97, li_99, li_120, li_122, li_144, li_168, li_194, li_240, li_255, li_284, li_299, li_603, li_999, li_1200, li_1440, li_4095, li_4096, li_6030, li_16384, li_20160, zl0, zl1, zl2, zl3, zl4, ze01, ze02, ze03, ze04, ze10, ze12, ze13, ze14, ze20, ze21, ze23, ze24, ze30, ze31, ze32, ze34, ze40, ze41, ze42, ze43, zt0, zt1, zt2, zt3, zt4, zq0, zq1, zq2, zq3, zq4, it_t, it_f, Bool.true_eq_false, Bool.false_eq_true, na5, na4, na1441, na2, na10, sx_IOIA, sx_IOIS, sx_IONS, sx_IAIO, sx_IAIS, sx_IANS, sx_ISIO, sx_ISIA, sx_ISNS, sx_NSIO, sx_NSIA, sx_NSIS, c_cX_gS hS, c_cX_gi hS, c_pst hS, c_phi hS, c_cH_gS hS, c_pmu hS, s_cS_gi hS ha, s_cS_gL hS ha, s_cS_pi hS ha, s_cS_pL hS ha, s_cS_gS hS ha, s_clost_al hS ha, s_clost_as hS ha, s_clost_ln hS ha, s_cout_al hS ha, s_cout_as hS ha, s_cout_ln hS ha, s_cpaid_al hS ha, s_cpaid_as hS ha, s_cpaid_ln hS ha, s_ctrust_al hS ha, s_ctrust_as hS ha, s_ctrust_ln hS ha, s_crot_al hS ha, s_crot_as hS ha, s_crot_ln hS ha, s_chands_al hS ha, s_chands_as hS ha, s_chands_ln hS ha, s_cto_al hS ha, s_cto_as hS ha, s_cto_ln hS ha, s_cends_al hS ha, s_cends_as hS ha, s_cends_ln hS ha, s_cret_al hS ha, s_cret_as hS ha, s_cret_ln hS ha, s_ccrew_al hS ha, s_ccrew_as hS ha, s_ccrew_ln hS ha, s_cL_gi hS ha, s_cL_gL hS ha, s_cL_pi hS ha, s_cL_pL hS ha, s_cL_gS hS ha, s_clcosts_al hS ha, s_clcosts_as hS ha, s_clcosts_ln hS ha, s_clcomers_al hS ha, s_clcomers_as hS ha, s_clcomers_ln hS ha, s_clleavers_al hS ha, s_clleavers_as hS ha, s_clleavers_ln hS ha, s_clengs_al hS ha, s_clengs_as hS ha, s_clengs_ln hS ha, s_cltimes_al hS ha, s_cltimes_as hS ha, s_cltimes_ln hS ha, s_clcrews_al hS ha, s_clcrews_as hS ha, s_clcrews_ln hS ha, s_cbest_al hS ha, s_cbest_as hS ha, s_cbest_ln hS ha, s_plost hS ha, s_pout hS ha, s_ppaid hS ha, s_ptrust hS ha, s_prot hS ha, s_phands hS ha, s_pto hS ha, s_pends hS ha, s_pret hS ha, s_pcrew hS ha, s_plog hS ha, s_plcosts hS ha, s_plcomers hS ha, s_plleavers hS ha, s_plengs hS ha, s_pltimes hS ha, s_plcrews hS ha, s_pbest hS ha, p_cP_gi hS hP, p_cP_gL hS hP, p_cP_pi hS hP, p_cP_pL hS hP, p_cP_gS hS hP, p_cN_gi hS hP, p_cN_gL hS hP, p_cN_pi hS hP, p_cN_pL hS hP, p_cN_gS hS hP, p_cps_ln hS hP, p_ctr_al hS hP, p_ctr_as hS hP, p_ctr_ln hS hP, p_cgs_ln hS hP, p_ces_ln hS hP, p_cks_ln hS hP, p_cable_al hS hP, p_cable_as hS hP, p_cable_ln hS hP, p_pN hS hP, p_pps hS hP, p_ptr hS hP, p_pgs hS hP, p_pes hS hP, p_pks hS hP, p_pable hS hP, p_ep_al hS hP, p_ep_gi hS hP, p_ep_gL hS hP, p_ep_pi hS hP, p_ep_pL hS hP, p_ep_gS hS hP, p_eg_al hS hP, p_eg_gi hS hP, p_eg_gL hS hP, p_eg_pi hS hP, p_eg_pL hS hP, p_eg_gS hS hP, p_egr_p hS hP, p_egr_al hS hP, p_egr_as hS hP, p_egr_ln hS hP, p_ee_al hS hP, p_ee_gi hS hP, p_ee_gL hS hP, p_ee_pi hS hP, p_ee_pL hS hP, p_ee_gS hS hP, p_ees_p hS hP, p_ees_al hS hP, p_ees_as hS hP, p_ees_ln hS hP, p_eed_p hS hP, p_eed_al hS hP, p_eed_as hS hP, p_eed_ln hS hP, p_ek_al hS hP, p_ek_gi hS hP, p_ek_gL hS hP, p_ek_pi hS hP, p_ek_pL hS hP, p_ek_gS hS hP, p_ekg_p hS hP, p_ekg_al hS hP, p_ekg_as hS hP, p_ekg_ln hS hP, p_eke_p hS hP, p_eke_al hS hP, p_eke_as hS hP, p_eke_ln hS hP, I.g3, b2i_0, I.needPerson, I.needPager, I.needEngine, I.needKind, I.needCall, I.needTwo, IV.needSlot, c, c_pfill hS, c_cfill_al hS, b1, nI_eq, c2, c_pslots hS, al, s_cS_gS hS ha, e1, c_phi S1, c_cH_pi S1]
      · have S0 : Sh (h_si g1 412 0 (nI 0)) := S1.si _ _ _
        have key : OK (aL1 (m_X12_restore_L34 412 (nI s) fun h4 => some ((), h4)) FU (nI 0) (h_si g1 412 0 (nI 0))) (fun _ h2 => h_iv h2 412 0 = nI 0 ∧ RK g1 h2 ∧ RefR h2 (setW (setU T 0) (rwX T 415 s))) := by
          refine r_restoreL (R := fun o => OK o _) S0 si_at hs (fun g3 F3 v3 v6 => ?_)
          have FF : Fx (fun o k => o = 413 ∨ (o = 412 ∧ (k = 0 ∨ k = 6))) g1 g3 := (Fx.si (A := fun o k => o = 413 ∨ (o = 412 ∧ (k = 0 ∨ k = 6))) (Or.inr ⟨rfl, Or.inl rfl⟩)).trans (F3.mono (fun o k q => by omega))
          have rb := r_back z1 (S := rwX T 415 s) FF v6 (by decide) (fun k => by
            rw [v3 k]
            unfold rwX
            by_cases c9 : k < 603
            · rw [if_pos c9, if_pos c9, si_ne (by omega)]; exact z1.c415 _
            · rw [if_neg c9, if_neg c9, si_ne (by omega)]; exact z1.c413 _) (fun k => by
            unfold rwX
            split <;> exact z1.2 _ _)
          exact ok_ret ⟨by rw [F3.iv (by omega), si_at], rb.1, rb.2⟩
        simp (maxSteps := 3000000) (disch := first | assumption | omega | exact hR.all _) only [m_X12_restore, bO_v, bR_v, bX_l, bX_r, bC_l, bC_r, aJ_v, aLet_v, nI_add, pk_mul, dvI_n, rmI_n, iMax_n, iMin_n, zO_0, zO_1, li_0, li_1, li_2, li_3, li_4, li_5, li_6, li_7, li_8, li_9, li_10, li_12, li_14, li_15, li_16, li_18, li_19, li_20, li_22, li_23, li_24, li_26, li_29, li_30, li_31, li_32, li_36, li_38, li_48, li_50, li_57, li_58, li_59, li_60, li_63, li_97, li_99, li_120, li_122, li_144, li_168, li_194, li_240, li_255, li_284, li_299, li_603, li_999, li_1200, li_1440, li_4095, li_4096, li_6030, li_16384, li_20160, zl0, zl1, zl2, zl3, zl4, ze01, ze02, ze03, ze04, ze10, ze12, ze13, ze14, ze20, ze21, ze23, ze24, ze30, ze31, ze32, ze34, ze40, ze41, ze42, ze43, zt0, zt1, zt2, zt3, zt4, zq0, zq1, zq2, zq3, zq4, it_t, it_f, Bool.true_eq_false, Bool.false_eq_true, na5, na4, na1441, na2, na10, sx_IOIA, sx_IOIS, sx_IONS, sx_IAIO, sx_IAIS, sx_IANS, sx_ISIO, sx_ISIA, sx_ISNS, sx_NSIO, sx_NSIA, sx_NSIS, r_in1, c, b2i_0, r_p417 S1, r_c417_al S1, z1.c417, nI_eq, c2, r_cM_pi S1]
        exact key
end
