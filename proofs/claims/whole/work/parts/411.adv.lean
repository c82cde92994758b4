/-! a state goes on by some minutes -/
theorem st_in : ∀ a ∈ stL, 134 ≤ a ∧ a + 18 ≤ 412 := by decide
theorem pl_in : ∀ P ∈ plL, 4 ≤ P ∧ P + 65 ≤ 134 := by decide
/-- nothing but ints of the cells A was written -/
def Fr (A : Nat → Prop) (h h' : aH) : Prop := h_nx h' = h_nx h ∧ h_sl h' = h_sl h ∧ h_sh h' = h_sh h ∧ h_ln h' = h_ln h ∧ h_rv h' = h_rv h ∧ h_lv h' = h_lv h ∧ ∀ o, ¬ A o → h_iv h' o = h_iv h o
theorem Fr.rf {A : Nat → Prop} {h : aH} : Fr A h h := ⟨rfl, rfl, rfl, rfl, rfl, rfl, fun _ _ => rfl⟩
theorem Fr.trans {A : Nat → Prop} {h h1 h2 : aH} (x : Fr A h h1) (y : Fr A h1 h2) : Fr A h h2 := ⟨y.1.trans x.1, y.2.1.trans x.2.1, y.2.2.1.trans x.2.2.1, y.2.2.2.1.trans x.2.2.2.1, y.2.2.2.2.1.trans x.2.2.2.2.1, y.2.2.2.2.2.1.trans x.2.2.2.2.2.1, fun o ho => (y.2.2.2.2.2.2 o ho).trans (x.2.2.2.2.2.2 o ho)⟩
theorem Fr.mono {A B : Nat → Prop} {h h1 : aH} (x : Fr A h h1) (hAB : ∀ o, A o → B o) : Fr B h h1 := ⟨x.1, x.2.1, x.2.2.1, x.2.2.2.1, x.2.2.2.2.1, x.2.2.2.2.2.1, fun o ho => x.2.2.2.2.2.2 o (fun q => ho (hAB o q))⟩
theorem Fr.si {A : Nat → Prop} {h : aH} {o k : Nat} {x : Int32} (ho : A o) : Fr A h (h_si h o k x) := ⟨rfl, rfl, rfl, rfl, rfl, rfl, fun q hq => funext fun j => u2n (fun e => hq (e.1 ▸ ho))⟩
theorem Fr.sh {A : Nat → Prop} {h h' : aH} (x : Fr A h h') (hS : Sh h) : Sh h' := by
  obtain ⟨x1, x2, x3, x4, x5, -⟩ := x
  refine ⟨?_, fun q hq => ?_, fun q hq => ?_⟩
  · rw [x1]; exact hS.1
  · rw [x3, x4]; exact hS.2.1 q hq
  · rw [x5]; exact hS.2.2 q hq
theorem Fr.iv {A : Nat → Prop} {h h' : aH} (x : Fr A h h') {o : Nat} (ho : ¬ A o) : h_iv h' o = h_iv h o := x.2.2.2.2.2.2 o ho
theorem Fr.rv {A : Nat → Prop} {h h' : aH} (x : Fr A h h') : h_rv h' = h_rv h := x.2.2.2.2.1
theorem si_at {h : aH} {o k : Nat} {x : Int32} : h_iv (h_si h o k x) o k = x := if_pos ⟨rfl, rfl⟩
theorem si_ne {h : aH} {o k a j : Nat} {x : Int32} (hn : ¬ (a = o ∧ j = k)) : h_iv (h_si h o k x) a j = h_iv h a j := if_neg hn
theorem bit_lt {x n p : Nat} (hx : x < 2 ^ n) (hp : x.testBit p = true) : p < n := by
  by_cases h : p < n
  · exact h
  · have h2 : x < 2 ^ p := Nat.lt_of_lt_of_le hx (Nat.pow_le_pow_right (by decide) (by omega))
    rw [Nat.testBit_lt_two_pow h2] at hp
    cases hp
theorem two_pow_lt {n x : Nat} (hn : n ≤ 12) (hx : x < 2 ^ n) : x < 4096 := Nat.lt_of_lt_of_le hx (show 2 ^ n ≤ 2 ^ 12 from Nat.pow_le_pow_right (by decide) hn)
section
variable {h : aH} {a P : Nat} {T : Nat → Nat → Nat}
theorem k_lostAt' (hS : Sh h) (ha : a ∈ stL) (hP : P ∈ plL) (pl : h_rv h a 0 = P) (y : PlR h P T) (hD : PlD T) {p t0 u l s : Nat} (hp : p < 12) (e1 : h_iv h a 1 = nI t0) (e2 : h_iv h (a + 2) p = nI u) (e3 : h_iv h (a + 1) p = nI l) (ht : t0 ≤ s) (hs : s < 100000) (hl : l < 100000) (hu : u < 100000) :
    m_X10_lostAt a (nI p) (nI s) h = some (nI (lostF (T 418 0) (T 418 1) u l t0 s), h) := by
  have q1 := nm_mono' (T 418 0) (T 418 1) (s := t0) (t := min (max u t0) s) (by omega)
  have q2 := nm_mono' (T 418 0) (T 418 1) (s := min (max u t0) s) (t := s) (by omega)
  have q3 := nm_le0 (T 418 0) (T 418 1) s
  have e0 : gr h 10 a 0 = some P := gr_ok9 (s_cS hS ha) pl (pl_ne0 P hP)
  simp (maxSteps := 3000000) (disch := first | assumption | omega) only [m_X10_lostAt, bO_v, bR_v, bX_l, bX_r, bC_l, bC_r, aJ_v, aLet_v, nI_add, pk_mul, dvI_n, rmI_n, iMax_n, iMin_n, zO_0, zO_1, li_0, li_1, li_2, li_3, li_4, li_5, li_6, li_7, li_8, li_9, li_10, li_12, li_14, li_15, li_16, li_18, li_19, li_20, li_22, li_23, li_24, li_26, li_29, li_30, li_31, li_32, li_36, li_38, li_48, li_50, li_57, li_58, li_59, li_60, li_63, li_97, li_99, li_120, li_122, li_144, li_168, li_194, li_240, li_255, li_284, li_299, li_603, li_999, li_1200, li_1440, li_4095, li_4096, li_6030, li_16384, li_20160, s_cS_gi hS ha, s_cS_gL hS ha, s_cS_pi hS ha, s_cS_pL hS ha, s_cS_gS hS ha, s_clost_al hS ha, s_clost_as hS ha, s_clost_ln hS ha, s_cout_al hS ha, s_cout_as hS ha, s_cout_ln hS ha, s_cpaid_al hS ha, s_cpaid_as hS ha, s_cpaid_ln hS ha, s_ctrust_al hS ha, s_ctrust_as hS ha, s_ctrust_ln hS ha, s_crot_al hS ha, s_crot_as hS ha, s_crot_ln hS ha, s_chands_al hS ha, s_chands_as hS ha, s_chands_ln hS ha, s_cto_al hS ha, s_cto_as hS ha, s_cto_ln hS ha, s_cends_al hS ha, s_cends_as hS ha, s_cends_ln hS ha, s_cret_al hS ha, s_cret_as hS ha, s_cret_ln hS ha, s_ccrew_al hS ha, s_ccrew_as hS ha, s_ccrew_ln hS ha, s_cL_gi hS ha, s_cL_gL hS ha, s_cL_pi hS ha, s_cL_pL hS ha, s_cL_gS hS ha, s_clcosts_al hS ha, s_clcosts_as hS ha, s_clcosts_ln hS ha, s_clcomers_al hS ha, s_clcomers_as hS ha, s_clcomers_ln hS ha, s_clleavers_al hS ha, s_clleavers_as hS ha, s_clleavers_ln hS ha, s_clengs_al hS ha, s_clengs_as hS ha, s_clengs_ln hS ha, s_cltimes_al hS ha, s_cltimes_as hS ha, s_cltimes_ln hS ha, s_clcrews_al hS ha, s_clcrews_as hS ha, s_clcrews_ln hS ha, s_cbest_al hS ha, s_cbest_as hS ha, s_cbest_ln hS ha, s_plost hS ha, s_pout hS ha, s_ppaid hS ha, s_ptrust hS ha, s_prot hS ha, s_phands hS ha, s_pto hS ha, s_pends hS ha, s_pret hS ha, s_pcrew hS ha, s_plog hS ha, s_plcosts hS ha, s_plcomers hS ha, s_plleavers hS ha, s_plengs hS ha, s_pltimes hS ha, s_plcrews hS ha, s_pbest hS ha, p_cP_gi hS hP, p_cP_gL hS hP, p_cP_pi hS hP, p_cP_pL hS hP, p_cP_gS hS hP, p_cN_gi hS hP, p_cN_gL hS hP, p_cN_pi hS hP, p_cN_pL hS hP, p_cN_gS hS hP, p_cps_ln hS hP, p_ctr_al hS hP, p_ctr_as hS hP, p_ctr_ln hS hP, p_cgs_ln hS hP, p_ces_ln hS hP, p_cks_ln hS hP, p_cable_al hS hP, p_cable_as hS hP, p_cable_ln hS hP, p_pN hS hP, p_pps hS hP, p_ptr hS hP, p_pgs hS hP, p_pes hS hP, p_pks hS hP, p_pable hS hP, p_ep_al hS hP, p_ep_gi hS hP, p_ep_gL hS hP, p_ep_pi hS hP, p_ep_pL hS hP, p_ep_gS hS hP, p_eg_al hS hP, p_eg_gi hS hP, p_eg_gL hS hP, p_eg_pi hS hP, p_eg_pL hS hP, p_eg_gS hS hP, p_egr_p hS hP, p_egr_al hS hP, p_egr_as hS hP, p_egr_ln hS hP, p_ee_al hS hP, p_ee_gi hS hP, p_ee_gL hS hP, p_ee_pi hS hP, p_ee_pL hS hP, p_ee_gS hS hP, p_ees_p hS hP, p_ees_al hS hP, p_ees_as hS hP, p_ees_ln hS hP, p_eed_p hS hP, p_eed_al hS hP, p_eed_as hS hP, p_eed_ln hS hP, p_ek_al hS hP, p_ek_gi hS hP, p_ek_gL hS hP, p_ek_pi hS hP, p_ek_pL hS hP, p_ek_gS hS hP, p_ekg_p hS hP, p_ekg_al hS hP, p_ekg_as hS hP, p_ekg_ln hS hP, p_eke_p hS hP, p_eke_al hS hP, p_eke_as hS hP, p_eke_ln hS hP, e0, e1, e2, e3, k_minutesIn hS hP y hD (s := t0) (t := min (max u t0) s) (by omega) (by omega), k_minutesIn hS hP y hD (s := min (max u t0) s) (t := s) (by omega) (by omega), iMax0_sub]
  rfl
theorem k_handOnsAt' (hS : Sh h) (ha : a ∈ stL) {g t n : Nat} {E : Nat → Nat} (hg : g < 6) (ht : t < 1000000) (hn : n ≤ 3) (e1 : h_iv h (a + 6) g = nI n) (e2 : ∀ k, k < n → h_iv h (a + 8) (g * 3 + k) = nI (E k)) (hE : ∀ k, E k < 2147483648) : m_X10_handOnsAt a (nI g) (nI t) h = some (nI (fb_ct (fun k => decide (t < E k)) n), h) := by
  simp only [m_X10_handOnsAt, aJ_v]
  refine aL2_run (R := fun o => o = some (nI (fb_ct (fun k => decide (t < E k)) n), h)) (fun m s1 s2 h1 => h1 = h ∧ ∃ i, i ≤ n ∧ m = n - i ∧ s2 = nI i ∧ s1 = nI (fb_ct (fun k => decide (t < E k)) i)) ⟨rfl, 0, Nat.zero_le _, rfl, rfl, rfl⟩ (by omega) ?_
  rintro rec m s1 s2 h1 ⟨rfl, i, hi, rfl, rfl, rfl⟩ ih
  by_cases hlt : i < n
  · have b1 := hE i
    simp (maxSteps := 3000000) (disch := first | assumption | omega) only [m_X10_handOnsAt_L5, bO_v, bR_v, bX_l, bX_r, bC_l, bC_r, aJ_v, aLet_v, nI_add, pk_mul, dvI_n, rmI_n, iMax_n, iMin_n, zO_0, zO_1, li_0, li_1, li_2, li_3, li_4, li_5, li_6, li_7, li_8, li_9, li_10, li_12, li_14, li_15, li_16, li_18, li_19, li_20, li_22, li_23, li_24, li_26, li_29, li_30, li_31, li_32, li_36, li_38, li_48, li_50, li_57, li_58, li_59, li_60, li_63, li_97, li_99, li_120, li_122, li_144, li_168, li_194, li_240, li_255, li_284, li_299, li_603, li_999, li_1200, li_1440, li_4095, li_4096, li_6030, li_16384, li_20160, s_cS_gi hS ha, s_cS_gL hS ha, s_cS_pi hS ha, s_cS_pL hS ha, s_cS_gS hS ha, s_clost_al hS ha, s_clost_as hS ha, s_clost_ln hS ha, s_cout_al hS ha, s_cout_as hS ha, s_cout_ln hS ha, s_cpaid_al hS ha, s_cpaid_as hS ha, s_cpaid_ln hS ha, s_ctrust_al hS ha, s_ctrust_as hS ha, s_ctrust_ln hS ha, s_crot_al hS ha, s_crot_as hS ha, s_crot_ln hS ha, s_chands_al hS ha, s_chands_as hS ha, s_chands_ln hS ha, s_cto_al hS ha, s_cto_as hS ha, s_cto_ln hS ha, s_cends_al hS ha, s_cends_as hS ha, s_cends_ln hS ha, s_cret_al hS ha, s_cret_as hS ha, s_cret_ln hS ha, s_ccrew_al hS ha, s_ccrew_as hS ha, s_ccrew_ln hS ha, s_cL_gi hS ha, s_cL_gL hS ha, s_cL_pi hS ha, s_cL_pL hS ha, s_cL_gS hS ha, s_clcosts_al hS ha, s_clcosts_as hS ha, s_clcosts_ln hS ha, s_clcomers_al hS ha, s_clcomers_as hS ha, s_clcomers_ln hS ha, s_clleavers_al hS ha, s_clleavers_as hS ha, s_clleavers_ln hS ha, s_clengs_al hS ha, s_clengs_as hS ha, s_clengs_ln hS ha, s_cltimes_al hS ha, s_cltimes_as hS ha, s_cltimes_ln hS ha, s_clcrews_al hS ha, s_clcrews_as hS ha, s_clcrews_ln hS ha, s_cbest_al hS ha, s_cbest_as hS ha, s_cbest_ln hS ha, s_plost hS ha, s_pout hS ha, s_ppaid hS ha, s_ptrust hS ha, s_prot hS ha, s_phands hS ha, s_pto hS ha, s_pends hS ha, s_pret hS ha, s_pcrew hS ha, s_plog hS ha, s_plcosts hS ha, s_plcomers hS ha, s_plleavers hS ha, s_plengs hS ha, s_pltimes hS ha, s_plcrews hS ha, s_pbest hS ha, e1, e2 i hlt, nI_ltI, nI_leI]
    rw [if_pos hlt]
    by_cases c : E i ≤ t
    · rw [if_pos c]
      exact ih _ _ _ _ (by omega) ⟨rfl, i + 1, hlt, rfl, rfl, by rw [fb_ct_succ, if_neg (by simpa using c)]; rfl⟩
    · rw [if_neg c]
      exact ih _ _ _ _ (by omega) ⟨rfl, i + 1, hlt, rfl, rfl, by rw [fb_ct_succ, if_pos (decide_eq_true (by omega))]⟩
  · obtain rfl : i = n := by omega
    simp (maxSteps := 3000000) (disch := first | assumption | omega) only [m_X10_handOnsAt_L5, bO_v, bR_v, bX_l, bX_r, bC_l, bC_r, aJ_v, aLet_v, nI_add, pk_mul, dvI_n, rmI_n, iMax_n, iMin_n, zO_0, zO_1, li_0, li_1, li_2, li_3, li_4, li_5, li_6, li_7, li_8, li_9, li_10, li_12, li_14, li_15, li_16, li_18, li_19, li_20, li_22, li_23, li_24, li_26, li_29, li_30, li_31, li_32, li_36, li_38, li_48, li_50, li_57, li_58, li_59, li_60, li_63, li_97, li_99, li_120, li_122, li_144, li_168, li_194, li_240, li_255, li_284, li_299, li_603, li_999, li_1200, li_1440, li_4095, li_4096, li_6030, li_16384, li_20160, s_cS_gi hS ha, s_cS_gL hS ha, s_cS_pi hS ha, s_cS_pL hS ha, s_cS_gS hS ha, s_clost_al hS ha, s_clost_as hS ha, s_clost_ln hS ha, s_cout_al hS ha, s_cout_as hS ha, s_cout_ln hS ha, s_cpaid_al hS ha, s_cpaid_as hS ha, s_cpaid_ln hS ha, s_ctrust_al hS ha, s_ctrust_as hS ha, s_ctrust_ln hS ha, s_crot_al hS ha, s_crot_as hS ha, s_crot_ln hS ha, s_chands_al hS ha, s_chands_as hS ha, s_chands_ln hS ha, s_cto_al hS ha, s_cto_as hS ha, s_cto_ln hS ha, s_cends_al hS ha, s_cends_as hS ha, s_cends_ln hS ha, s_cret_al hS ha, s_cret_as hS ha, s_cret_ln hS ha, s_ccrew_al hS ha, s_ccrew_as hS ha, s_ccrew_ln hS ha, s_cL_gi hS ha, s_cL_gL hS ha, s_cL_pi hS ha, s_cL_pL hS ha, s_cL_gS hS ha, s_clcosts_al hS ha, s_clcosts_as hS ha, s_clcosts_ln hS ha, s_clcomers_al hS ha, s_clcomers_as hS ha, s_clcomers_ln hS ha, s_clleavers_al hS ha, s_clleavers_as hS ha, s_clleavers_ln hS ha, s_clengs_al hS ha, s_clengs_as hS ha, s_clengs_ln hS ha, s_cltimes_al hS ha, s_cltimes_as hS ha, s_cltimes_ln hS ha, s_clcrews_al hS ha, s_clcrews_as hS ha, s_clcrews_ln hS ha, s_cbest_al hS ha, s_cbest_as hS ha, s_cbest_ln hS ha, s_plost hS ha, s_pout hS ha, s_ppaid hS ha, s_ptrust hS ha, s_prot hS ha, s_phands hS ha, s_pto hS ha, s_pends hS ha, s_pret hS ha, s_pcrew hS ha, s_plog hS ha, s_plcosts hS ha, s_plcomers hS ha, s_plleavers hS ha, s_plengs hS ha, s_pltimes hS ha, s_plcrews hS ha, s_pbest hS ha, e1, nI_ltI]
    rw [if_neg hlt]
theorem k_shiftUp (hS : Sh h) (ha : a ∈ stL) {p q X : Nat} (hp : p < 12) (hq : q < 12) (e : h_iv h (a + 4) (p * 12 + q) = nI X) (hX : X ≤ 9) : m_X10_shiftTrust a (nI p) (nI q) (nI 1) h = some ((), if X < 9 then h_si h (a + 4) (p * 12 + q) (nI (X + 1)) else h) := by
  simp (maxSteps := 3000000) (disch := first | assumption | omega) only [m_X10_shiftTrust, bO_v, bR_v, bX_l, bX_r, bC_l, bC_r, aJ_v, aLet_v, nI_add, pk_mul, dvI_n, rmI_n, iMax_n, iMin_n, zO_0, zO_1, li_0, li_1, li_2, li_3, li_4, li_5, li_6, li_7, li_8, li_9, li_10, li_12, li_14, li_15, li_16, li_18, li_19, li_20, li_22, li_23, li_24, li_26, li_29, li_30, li_31, li_32, li_36, li_38, li_48, li_50, li_57, li_58, li_59, li_60, li_63, li_97, li_99, li_120, li_122, li_144, li_168, li_194, li_240, li_255, li_284, li_299, li_603, li_999, li_1200, li_1440, li_4095, li_4096, li_6030, li_16384, li_20160, s_cS_gi hS ha, s_cS_gL hS ha, s_cS_pi hS ha, s_cS_pL hS ha, s_cS_gS hS ha, s_clost_al hS ha, s_clost_as hS ha, s_clost_ln hS ha, s_cout_al hS ha, s_cout_as hS ha, s_cout_ln hS ha, s_cpaid_al hS ha, s_cpaid_as hS ha, s_cpaid_ln hS ha, s_ctrust_al hS ha, s_ctrust_as hS ha, s_ctrust_ln hS ha, s_crot_al hS ha, s_crot_as hS ha, s_crot_ln hS ha, s_chands_al hS ha, s_chands_as hS ha, s_chands_ln hS ha, s_cto_al hS ha, s_cto_as hS ha, s_cto_ln hS ha, s_cends_al hS ha, s_cends_as hS ha, s_cends_ln hS ha, s_cret_al hS ha, s_cret_as hS ha, s_cret_ln hS ha, s_ccrew_al hS ha, s_ccrew_as hS ha, s_ccrew_ln hS ha, s_cL_gi hS ha, s_cL_gL hS ha, s_cL_pi hS ha, s_cL_pL hS ha, s_cL_gS hS ha, s_clcosts_al hS ha, s_clcosts_as hS ha, s_clcosts_ln hS ha, s_clcomers_al hS ha, s_clcomers_as hS ha, s_clcomers_ln hS ha, s_clleavers_al hS ha, s_clleavers_as hS ha, s_clleavers_ln hS ha, s_clengs_al hS ha, s_clengs_as hS ha, s_clengs_ln hS ha, s_cltimes_al hS ha, s_cltimes_as hS ha, s_cltimes_ln hS ha, s_clcrews_al hS ha, s_clcrews_as hS ha, s_clcrews_ln hS ha, s_cbest_al hS ha, s_cbest_as hS ha, s_cbest_ln hS ha, s_plost hS ha, s_pout hS ha, s_ppaid hS ha, s_ptrust hS ha, s_prot hS ha, s_phands hS ha, s_pto hS ha, s_pends hS ha, s_pret hS ha, s_pcrew hS ha, s_plog hS ha, s_plcosts hS ha, s_plcomers hS ha, s_plleavers hS ha, s_plengs hS ha, s_pltimes hS ha, s_plcrews hS ha, s_pbest hS ha, k_pair, e, nI_ltI, nI_leI]
  rw [if_neg (Nat.not_lt_zero _)]
  by_cases c : X < 9
  · rw [if_pos (by omega), if_pos c]
  · rw [if_neg (by omega), if_neg c]
/-- what a common engine does to a trust -/
def gro (crew p q X : Nat) : Nat := if p ≠ q ∧ crew.testBit p = true ∧ crew.testBit q = true ∧ X < 9 then X + 1 else X
theorem k_growL10 (hS : Sh h) (ha : a ∈ stL) {n crew p : Nat} (hn : n ≤ 12) (hp : p < 12) (hc : crew < 2 ^ n) {X : Nat → Nat → Nat} (hX : ∀ p q, X p q ≤ 9) (e : ∀ p q, p < n → q < n → h_iv h (a + 4) (p * 12 + q) = nI (X p q)) (k50 : aH → Option (Unit × aH)) {R : Option (Unit × aH) → Prop}
    (hk : ∀ h1, Fr (fun o => o = a + 4) h h1 → (∀ p' q', p' < n → q' < n → h_iv h1 (a + 4) (p' * 12 + q') = nI (if p' = p then gro crew p' q' (X p' q') else X p' q')) → R (k50 h1)) : R (aL1 (m_X10_growTrustIn_L10 a (nI crew) (nI p) k50) FU (nI 0) h) := by
  have hc2 := two_pow_lt hn hc
  refine aL1_run (fun m s1 h1 => ∃ i, i ≤ 12 ∧ m = 12 - i ∧ s1 = nI i ∧ Fr (fun o => o = a + 4) h h1 ∧ ∀ p' q', p' < n → q' < n → h_iv h1 (a + 4) (p' * 12 + q') = nI (if p' = p ∧ q' < i then gro crew p' q' (X p' q') else X p' q')) ⟨0, Nat.zero_le _, rfl, rfl, Fr.rf, fun p' q' h1 h2 => by rw [if_neg (by omega)]; exact e p' q' h1 h2⟩ (by omega) ?_
  rintro rec m s1 h1 ⟨i, hi, rfl, rfl, hF, hA⟩ ih
  have hS1 := hF.sh hS
  have same : ¬ (p ≠ i ∧ crew.testBit p = true ∧ crew.testBit i = true) → ∀ p' q', p' < n → q' < n → h_iv h1 (a + 4) (p' * 12 + q') = nI (if p' = p ∧ q' < i + 1 then gro crew p' q' (X p' q') else X p' q') := by
    intro hno p' q' h2 h3
    rw [hA p' q' h2 h3]
    by_cases c1 : p' = p ∧ q' = i
    · rw [if_neg (by omega), if_pos (by omega), gro, if_neg (fun q => hno ⟨c1.1 ▸ c1.2 ▸ q.1, c1.1 ▸ q.2.1, c1.2 ▸ q.2.2.1⟩)]
    · by_cases c2 : p' = p ∧ q' < i
      · rw [if_pos c2, if_pos (by omega)]
      · rw [if_neg c2, if_neg (by omega)]
  by_cases hlt : i < 12
  · simp (maxSteps := 3000000) (disch := first | assumption | omega) only [m_X10_growTrustIn_L10, bO_v, bR_v, bX_l, bX_r, bC_l, bC_r, aJ_v, aLet_v, nI_add, pk_mul, dvI_n, rmI_n, iMax_n, iMin_n, zO_0, zO_1, li_0, li_1, li_2, li_3, li_4, li_5, li_6, li_7, li_8, li_9, li_10, li_12, li_14, li_15, li_16, li_18, li_19, li_20, li_22, li_23, li_24, li_26, li_29, li_30, li_31, li_32, li_36, li_38, li_48, li_50, li_57, li_58, li_59, li_60, li_63, li_97, li_99, li_120, li_122, li_144, li_168, li_194, li_240, li_255, li_284, li_299, li_603, li_999, li_1200, li_1440, li_4095, li_4096, li_6030, li_16384, li_20160, nI_ltI, nI_eq, k_has, b2i_0]
    rw [if_pos hlt]
    by_cases c1 : p = i
    · rw [if_pos c1]
      exact ih _ _ _ (by omega) ⟨i + 1, hlt, rfl, rfl, hF, same (fun q => q.1 c1)⟩
    · rw [if_neg c1]
      by_cases c2 : crew.testBit p = false
      · rw [if_pos c2]
        exact ih _ _ _ (by omega) ⟨i + 1, hlt, rfl, rfl, hF, same (fun q => by rw [c2] at q; cases q.2.1)⟩
      · rw [if_neg c2]
        by_cases c3 : crew.testBit i = false
        · rw [if_pos c3]
          exact ih _ _ _ (by omega) ⟨i + 1, hlt, rfl, rfl, hF, same (fun q => by rw [c3] at q; cases q.2.2)⟩
        · rw [if_neg c3]
          have t2 : crew.testBit p = true := by simpa using c2
          have t3 : crew.testBit i = true := by simpa using c3
          have l2 := bit_lt hc t2
          have l3 := bit_lt hc t3
          have e9 := hA p i l2 l3
          rw [if_neg (by omega)] at e9
          simp (maxSteps := 3000000) (disch := first | assumption | omega) only [bO_v, bR_v, bX_l, bX_r, bC_l, bC_r, aJ_v, aLet_v, nI_add, pk_mul, dvI_n, rmI_n, iMax_n, iMin_n, zO_0, zO_1, li_0, li_1, li_2, li_3, li_4, li_5, li_6, li_7, li_8, li_9, li_10, li_12, li_14, li_15, li_16, li_18, li_19, li_20, li_22, li_23, li_24, li_26, li_29, li_30, li_31, li_32, li_36, li_38, li_48, li_50, li_57, li_58, li_59, li_60, li_63, li_97, li_99, li_120, li_122, li_144, li_168, li_194, li_240, li_255, li_284, li_299, li_603, li_999, li_1200, li_1440, li_4095, li_4096, li_6030, li_16384, li_20160, s_cS_gi hS1 ha, s_cS_gL hS1 ha, s_cS_pi hS1 ha, s_cS_pL hS1 ha, s_cS_gS hS1 ha, s_clost_al hS1 ha, s_clost_as hS1 ha, s_clost_ln hS1 ha, s_cout_al hS1 ha, s_cout_as hS1 ha, s_cout_ln hS1 ha, s_cpaid_al hS1 ha, s_cpaid_as hS1 ha, s_cpaid_ln hS1 ha, s_ctrust_al hS1 ha, s_ctrust_as hS1 ha, s_ctrust_ln hS1 ha, s_crot_al hS1 ha, s_crot_as hS1 ha, s_crot_ln hS1 ha, s_chands_al hS1 ha, s_chands_as hS1 ha, s_chands_ln hS1 ha, s_cto_al hS1 ha, s_cto_as hS1 ha, s_cto_ln hS1 ha, s_cends_al hS1 ha, s_cends_as hS1 ha, s_cends_ln hS1 ha, s_cret_al hS1 ha, s_cret_as hS1 ha, s_cret_ln hS1 ha, s_ccrew_al hS1 ha, s_ccrew_as hS1 ha, s_ccrew_ln hS1 ha, s_cL_gi hS1 ha, s_cL_gL hS1 ha, s_cL_pi hS1 ha, s_cL_pL hS1 ha, s_cL_gS hS1 ha, s_clcosts_al hS1 ha, s_clcosts_as hS1 ha, s_clcosts_ln hS1 ha, s_clcomers_al hS1 ha, s_clcomers_as hS1 ha, s_clcomers_ln hS1 ha, s_clleavers_al hS1 ha, s_clleavers_as hS1 ha, s_clleavers_ln hS1 ha, s_clengs_al hS1 ha, s_clengs_as hS1 ha, s_clengs_ln hS1 ha, s_cltimes_al hS1 ha, s_cltimes_as hS1 ha, s_cltimes_ln hS1 ha, s_clcrews_al hS1 ha, s_clcrews_as hS1 ha, s_clcrews_ln hS1 ha, s_cbest_al hS1 ha, s_cbest_as hS1 ha, s_cbest_ln hS1 ha, s_plost hS1 ha, s_pout hS1 ha, s_ppaid hS1 ha, s_ptrust hS1 ha, s_prot hS1 ha, s_phands hS1 ha, s_pto hS1 ha, s_pends hS1 ha, s_pret hS1 ha, s_pcrew hS1 ha, s_plog hS1 ha, s_plcosts hS1 ha, s_plcomers hS1 ha, s_plleavers hS1 ha, s_plengs hS1 ha, s_pltimes hS1 ha, s_plcrews hS1 ha, s_pbest hS1 ha, k_shiftUp hS1 ha hp hlt e9 (hX p i)]
          refine ih _ _ _ (by omega) ⟨i + 1, hlt, rfl, rfl, ?_, fun p' q' h2 h3 => ?_⟩
          · split
            · exact hF.trans (Fr.si rfl)
            · exact hF
          · by_cases c4 : X p i < 9
            · rw [if_pos c4]
              by_cases c5 : p' = p ∧ q' = i
              · rw [c5.1, c5.2, if_pos (by omega), si_at, gro, if_pos ⟨c1, t2, t3, c4⟩]
              · rw [si_ne (by omega), hA p' q' h2 h3]
                by_cases c6 : p' = p ∧ q' < i
                · rw [if_pos c6, if_pos (by omega)]
                · rw [if_neg c6, if_neg (by omega)]
            · rw [if_neg c4, hA p' q' h2 h3]
              by_cases c5 : p' = p ∧ q' = i
              · rw [c5.1, c5.2, if_neg (by omega), if_pos (by omega), gro, if_neg (fun q => c4 q.2.2.2)]
              · by_cases c6 : p' = p ∧ q' < i
                · rw [if_pos c6, if_pos (by omega)]
                · rw [if_neg c6, if_neg (by omega)]
  · obtain rfl : i = 12 := by omega
    simp (maxSteps := 3000000) (disch := first | assumption | omega) only [m_X10_growTrustIn_L10, bO_v, bR_v, bX_l, bX_r, bC_l, bC_r, aJ_v, aLet_v, nI_add, pk_mul, dvI_n, rmI_n, iMax_n, iMin_n, zO_0, zO_1, li_0, li_1, li_2, li_3, li_4, li_5, li_6, li_7, li_8, li_9, li_10, li_12, li_14, li_15, li_16, li_18, li_19, li_20, li_22, li_23, li_24, li_26, li_29, li_30, li_31, li_32, li_36, li_38, li_48, li_50, li_57, li_58, li_59, li_60, li_63, li_97, li_99, li_120, li_122, li_144, li_168, li_194, li_240, li_255, li_284, li_299, li_603, li_999, li_1200, li_1440, li_4095, li_4096, li_6030, li_16384, li_20160, nI_ltI]
    rw [if_neg (by decide)]
    refine hk h1 hF (fun p' q' h2 h3 => ?_)
    rw [hA p' q' h2 h3]
    by_cases c : p' = p
    · rw [if_pos ⟨c, by omega⟩, if_pos c]
    · rw [if_neg (fun q => c q.1), if_neg c]
theorem k_grow (hS : Sh h) (ha : a ∈ stL) {n crew : Nat} (hn : n ≤ 12) (hc : crew < 2 ^ n) {X : Nat → Nat → Nat} (hX : ∀ p q, X p q ≤ 9) (e : ∀ p q, p < n → q < n → h_iv h (a + 4) (p * 12 + q) = nI (X p q)) :
    OK (m_X10_growTrustIn a (nI crew) h) (fun _ h1 => Fr (fun o => o = a + 4) h h1 ∧ ∀ p q, p < n → q < n → h_iv h1 (a + 4) (p * 12 + q) = nI (gro crew p q (X p q))) := by
  simp only [m_X10_growTrustIn, aJ_v]
  refine aL1_run (R := fun o => OK o _) (fun m s1 h1 => ∃ i, i ≤ 12 ∧ m = 12 - i ∧ s1 = nI i ∧ Fr (fun o => o = a + 4) h h1 ∧ ∀ p' q', p' < n → q' < n → h_iv h1 (a + 4) (p' * 12 + q') = nI (if p' < i then gro crew p' q' (X p' q') else X p' q')) ⟨0, Nat.zero_le _, rfl, rfl, Fr.rf, fun p' q' h1 h2 => by rw [if_neg (by omega)]; exact e p' q' h1 h2⟩ (by omega) ?_
  rintro rec m s1 h1 ⟨i, hi, rfl, rfl, hF, hA⟩ ih
  have hS1 := hF.sh hS
  by_cases hlt : i < 12
  · simp (maxSteps := 3000000) (disch := first | assumption | omega) only [m_X10_growTrustIn_L2, bO_v, bR_v, bX_l, bX_r, bC_l, bC_r, aJ_v, aLet_v, nI_add, pk_mul, dvI_n, rmI_n, iMax_n, iMin_n, zO_0, zO_1, li_0, li_1, li_2, li_3, li_4, li_5, li_6, li_7, li_8, li_9, li_10, li_12, li_14, li_15, li_16, li_18, li_19, li_20, li_22, li_23, li_24, li_26, li_29, li_30, li_31, li_32, li_36, li_38, li_48, li_50, li_57, li_58, li_59, li_60, li_63, li_97, li_99, li_120, li_122, li_144, li_168, li_194, li_240, li_255, li_284, li_299, li_603, li_999, li_1200, li_1440, li_4095, li_4096, li_6030, li_16384, li_20160, nI_ltI]
    rw [if_pos hlt]
    refine k_growL10 (R := fun o => OK o _) hS1 ha hn hlt hc (X := fun p q => if p < i then gro crew p q (X p q) else X p q) (fun p q => ?_) hA _ (fun h2 hF2 hA2 => ?_)
    · show (if p < i then gro crew p q (X p q) else X p q) ≤ 9
      have := hX p q
      unfold gro
      split
      · split <;> omega
      · exact this
    · refine ih _ _ _ (by omega) ⟨i + 1, hlt, rfl, rfl, hF.trans hF2, fun p' q' h3 h4 => ?_⟩
      rw [hA2 p' q' h3 h4]
      by_cases c : p' = i
      · rw [if_pos c, if_neg (by omega), if_pos (by omega)]
      · rw [if_neg c]
        by_cases c2 : p' < i
        · rw [if_pos c2, if_pos (by omega)]
        · rw [if_neg c2, if_neg (by omega)]
  · obtain rfl : i = 12 := by omega
    simp (maxSteps := 3000000) (disch := first | assumption | omega) only [m_X10_growTrustIn_L2, bO_v, bR_v, bX_l, bX_r, bC_l, bC_r, aJ_v, aLet_v, nI_add, pk_mul, dvI_n, rmI_n, iMax_n, iMin_n, zO_0, zO_1, li_0, li_1, li_2, li_3, li_4, li_5, li_6, li_7, li_8, li_9, li_10, li_12, li_14, li_15, li_16, li_18, li_19, li_20, li_22, li_23, li_24, li_26, li_29, li_30, li_31, li_32, li_36, li_38, li_48, li_50, li_57, li_58, li_59, li_60, li_63, li_97, li_99, li_120, li_122, li_144, li_168, li_194, li_240, li_255, li_284, li_299, li_603, li_999, li_1200, li_1440, li_4095, li_4096, li_6030, li_16384, li_20160, nI_ltI]
    rw [if_neg (by decide)]
    refine ok_ret ⟨hF, fun p q h2 h3 => ?_⟩
    rw [hA p q h2 h3, if_pos (by omega)]
end
