/-! the helpful hand-on -/
theorem mk_cong {q q' : Nat → Bool} : ∀ {n : Nat}, (∀ p, p < n → q p = q' p) → mk q n = mk q' n
  | 0, _ => rfl
  | n + 1, h => by rw [mk, mk, mk_cong (fun p hp => h p (by omega)), h n (by omega)]
section
variable {T : Nat → Nat → Nat} {S S' : Nat → Nat}
theorem arr_ext (e0 : S' 0 = S 0) : arr T S' = arr T S := funext fun p => by
  unfold arr
  rw [e0]
theorem absn_ext (hD : PlD T) (hR : RwD T S) (e : ∀ j, ¬ garb S j → S' j = S j) {k p : Nat} (hk : k < T 412 11) (hp : p < T 412 8) : absn T S' k p = absn T S k p := by
  have d0 := hD.nP
  have d1 := hD.nG
  have e0 : S' 0 = S 0 := e _ (ng (by omega) (by omega))
  have h1 : hlds T S' k p = hlds T S k p := by
    unfold hlds
    refine anyB_cong (fun j hj => ?_)
    have hg := hD.kg k hk j hj
    have hn := hR.hn _ hg
    rw [e (194 + 15 * T 432 (6 * k + j) + 8) (ng (by omega) (by omega)), link_ext hD e hg hn (Nat.le_refl _)]
  have h2 : isO S' p = isO S p := by unfold isO; rw [e0, e _ (ng (by omega) (by omega))]
  have h3 : isT T S' p = isT T S p := by unfold isT; rw [e _ (ng (by omega) (by omega))]
  unfold absn
  rw [h1, h2, h3, e (26 + p) (ng (by omega) (by omega)), arr_ext e0]
theorem com_ext (hD : PlD T) (hR : RwD T S) (e : ∀ j, ¬ garb S j → S' j = S j) {k : Nat} (hk : k < T 412 11) : com T S' k = com T S k := mk_cong (fun p hp => by rw [absn_ext hD hR e hk hp])
theorem plC_ext (hD : PlD T) (e : ∀ j, ¬ garb S j → S' j = S j) {k A i : Nat} (hk : k < T 412 11) (hi : i < T 433 k) : plC T S' k A i = plC T S k A i := by
  have d2 := hD.nE
  have he : enK T k i < T 412 10 := hD.ke k hk i hi
  have e0 : S' 0 = S 0 := e _ (ng (by omega) (by omega))
  have h1 : rstd S' (enK T k i) = rstd S (enK T k i) := by unfold rstd; rw [e _ (ng (by omega) (by omega))]
  have h2 : eout S' (enK T k i) = eout S (enK T k i) := by unfold eout; rw [e0, e _ (ng (by omega) (by omega))]
  unfold plC crwE
  rw [h1, h2, arr_ext e0]
theorem plF_ext (hD : PlD T) (hR : RwD T S) (e : ∀ j, ¬ garb S j → S' j = S j) {k : Nat} (hk : k < T 412 11) : ∀ {i}, i ≤ T 433 k → plF T S' k i = plF T S k i
  | 0, _ => com_ext hD hR e hk
  | i + 1, hi => by
    rw [plF, plF, plF_ext hD hR e hk (i := i) (by omega), plC_ext hD e hk (by omega)]
theorem plV_ext (hD : PlD T) (hR : RwD T S) (e : ∀ j, ¬ garb S j → S' j = S j) {k : Nat} (hk : k < T 412 11) : ∀ {i}, i ≤ T 433 k → plV T S' k i = plV T S k i
  | 0, _ => rfl
  | i + 1, hi => by
    rw [plV, plV, plV_ext hD hR e hk (i := i) (by omega), plF_ext hD hR e hk (i := i) (by omega), plC_ext hD e hk (by omega)]
theorem aw_ext (hD : PlD T) (hR : RwD T S) (e : ∀ j, ¬ garb S j → S' j = S j) {k : Nat} (hk : k < T 412 11) : awB T S' k = awB T S k := by
  unfold awB
  rw [plV_ext hD hR e hk (Nat.le_refl _)]
theorem hdS_gar {g p u : Nat} (hg : g < 6) (h3 : S (194 + 15 * g + 8) < 3) (e : ∀ j, ¬ garb S j → S' j = S j) : ∀ j, ¬ garb (hdS S g p u) j → hdS S' g p u j = hdS S g p u j := fun j hj => by
  have en : S' (194 + 15 * g + 8) = S (194 + 15 * g + 8) := e _ (ng (by omega) (by omega))
  unfold hdS
  rw [en]
  by_cases c1 : j = 194 + 15 * g + 8
  · rw [if_pos c1, if_pos c1]
  · rw [if_neg c1, if_neg c1]
    by_cases c2 : j = 194 + 15 * g + 9 + S (194 + 15 * g + 8)
    · rw [if_pos c2, if_pos c2]
    · rw [if_neg c2, if_neg c2]
      by_cases c3 : j = 194 + 15 * g + 12 + S (194 + 15 * g + 8)
      · rw [if_pos c3, if_pos c3]
      · rw [if_neg c3, if_neg c3]
        refine e j (fun q => hj ?_)
        rcases q with q | ⟨g', k, q1, q2, q3, q4⟩
        · exact Or.inl q
        · refine Or.inr ⟨g', k, q1, ?_, q3, q4⟩
          by_cases c : g' = g
          · subst c; rw [hdS_n]; omega
          · rw [hdS_o h3 (by omega)]; exact q2
def hlpB (T : Nat → Nat → Nat) (S : Nat → Nat) (k g p : Nat) : Bool := decide (rsn T S g p (nI (endA T S g (S 0))) = 0) && awB T (hdS S g p (endA T S g (S 0))) k
def HP (T : Nat → Nat → Nat) (S : Nat → Nat) (k g p : Nat) : Prop := hlpB T S k g p = true ∧ ∀ g' p', g' < T 412 9 → p' < T 412 8 → (g' < g ∨ (g' = g ∧ p' < p)) → hlpB T S k g' p' = false
theorem HP_one {k g p g' p' : Nat} (h1 : HP T S k g p) (hg : g < T 412 9) (hp : p < T 412 8) (h2 : HP T S k g' p') (hg' : g' < T 412 9) (hp' : p' < T 412 8) : g = g' ∧ p = p' := by
  rcases Nat.lt_trichotomy g g' with c | c | c
  · have := h2.2 g p hg hp (Or.inl c)
    rw [h1.1] at this; cases this
  · rcases Nat.lt_trichotomy p p' with c2 | c2 | c2
    · have := h2.2 g p hg hp (Or.inr ⟨c, c2⟩)
      rw [h1.1] at this; cases this
    · exact ⟨c, c2⟩
    · have := h1.2 g' p' hg' hp' (Or.inr ⟨c.symm, c2⟩)
      rw [h2.1] at this; cases this
  · have := h1.2 g' p' hg' hp' (Or.inl c)
    rw [h2.1] at this; cases this
end
section
variable {h : aH} {T : Nat → Nat → Nat} {P Q : Nat}
theorem k_help (I : IV h T P Q) {k : Nat} (hk : k < T 412 11) : OK (m_X11_helpfulHandOn 1 (nI k) h) (fun r g1 => (awB T (T 413) k = true ∧ r = .inr "java/lang/IllegalStateException" ∧ ∃ g0, g1 = h_exc g0 ∧ QF 0 h g0) ∨ (awB T (T 413) k = false ∧ ∃ g p, g < T 412 9 ∧ p < T 412 8 ∧ HP T (T 413) k g p ∧ r = .inl (nI (g * 12 + p)) ∧ QF 0 h g1) ∨ (awB T (T 413) k = false ∧ (∀ g p, g < T 412 9 → p < T 412 8 → hlpB T (T 413) k g p = false) ∧ r = .inr "java/util/NoSuchElementException" ∧ ∃ g0, g1 = h_exc g0 ∧ QF 0 h g0)) := by
  have hS := I.sh
  have hD := I.D
  have hR := I.R
  have hP := I.hP
  have y := I.y
  have d0 := hD.nP
  have d1 := hD.nG
  have d2 := hD.nE
  have d3 := hD.nK
  have d4 := hR.tm
  have d5 := I.RB.2.2
  have ha : 134 ∈ stL := by decide
  have x := I.x
  have p8 : kpT T 412 8 = T 412 8 := kpT_pe.1
  have p9 : kpT T 412 9 = T 412 9 := kpT_pe.2.1
  have p10 : kpT T 412 10 = T 412 10 := kpT_pe.2.2.1
  have c := inr_n hk (show k < 2147483648 by omega)
  have h152 : 153 ∈ stL := by decide
  obtain ⟨r, g1, ef, er, MF, -, -, -⟩ := k_foresee hS ha hP x y hD hR hk
  have er2 : r = b2i (awB T (T 413) k) := er
  rw [er2] at ef
  have S1 := MF.sh hS
  have Q1 := QF.mu MF
  have I1 := I.go Q1
  simp (maxSteps := 3000000) (disch := first | assumption | omega | exact hR.all _) only [m_X11_helpfulHandOn, bO_v, bR_v, bX_l, bX_r, bC_l, bC_r, aLet_v, nI_add, pk_mul, dvI_n, rmI_n, iMax_n, iMin_n, zO_0, zO_1, li_0, li_1, li_2, li_3, li_4, li_5, li_6, li_7, li_8, li_9, li_10, li_12, li_14, li_15, li_16, li_18, li_19, li_20, li_22, li_23, li_24, li_26, li_29, li_30, li_31, li_32, li_36, li_38, li_48, li_50, li_57, li_58, li_59, li_60, li_63, li_97, li_99, li_120, li_122, li_144, li_168, li_194, li_240, li_255, li_284, li_299, li_603, li_999, li_1200, li_1440, li_4095, li_4096, li_6030, li_16384, li_20160, zl0, zl1, zl2, zl3, zl4, ze01, ze02, ze03, ze04, ze10, ze12, ze13, ze14, ze20, ze21, ze23, ze24, ze30, ze31, ze32, ze34, ze40, ze41, ze42, ze43, zt0, zt1, zt2, zt3, zt4, zq0, zq1, zq2, zq3, zq4, it_t, it_f, Bool.true_eq_false, Bool.false_eq_true, na5, na4, na1441, na2, na10, sx_IOIA, sx_IOIS, sx_IONS, sx_IAIO, sx_IAIS, sx_IANS, sx_ISIO, sx_ISIA, sx_ISNS, sx_NSIO, sx_NSIA, sx_NSIS, c_cX_gS hS, I.needKind, c, c_pmu hS, c_pst hS, I.g3, p_pks hS hP, p_ek_al hS hP, c_cU_gS hS, ef, b2i_0]
  cases ca : awB T (T 413) k
  · rw [if_pos rfl]
    simp (maxSteps := 3000000) (disch := first | assumption | omega | exact hR.all _) only [c_pdr S1, c_pst S1, s_cS_gS S1 h152, bO_v, bR_v, bX_l, bX_r, bC_l, bC_r, aLet_v, nI_add, pk_mul, dvI_n, rmI_n, iMax_n, iMin_n, zO_0, zO_1, li_0, li_1, li_2, li_3, li_4, li_5, li_6, li_7, li_8, li_9, li_10, li_12, li_14, li_15, li_16, li_18, li_19, li_20, li_22, li_23, li_24, li_26, li_29, li_30, li_31, li_32, li_36, li_38, li_48, li_50, li_57, li_58, li_59, li_60, li_63, li_97, li_99, li_120, li_122, li_144, li_168, li_194, li_240, li_255, li_284, li_299, li_603, li_999, li_1200, li_1440, li_4095, li_4096, li_6030, li_16384, li_20160, zl0, zl1, zl2, zl3, zl4, ze01, ze02, ze03, ze04, ze10, ze12, ze13, ze14, ze20, ze21, ze23, ze24, ze30, ze31, ze32, ze34, ze40, ze41, ze42, ze43, zt0, zt1, zt2, zt3, zt4, zq0, zq1, zq2, zq3, zq4, it_t, it_f, Bool.true_eq_false, Bool.false_eq_true, na5, na4, na1441, na2, na10, sx_IOIA, sx_IOIS, sx_IONS, sx_IAIO, sx_IAIS, sx_IANS, sx_ISIO, sx_ISIA, sx_ISNS, sx_NSIO, sx_NSIA, sx_NSIS]
    refine ok_bR (k_copyFrom S1 ha h152 (by decide) hP I1.x hD hR) (fun _ g2 hh => ?_)
    obtain ⟨S2, C2, x2⟩ := hh
    have Q2 := Q1.trans (QF.cq C2)
    refine aJ_gen (R := fun o => OK o _) (fun k174 hk174 => ?_)
    refine aJ_gen (R := fun o => OK o _) (fun k154 hk154 => ?_)
    refine aL1_run (R := fun o => OK o _) (fun m s1 g3 => ∃ g, g ≤ T 412 9 ∧ m = T 412 9 - g ∧ s1 = nI g ∧ QF 0 h g3 ∧ StR g3 153 P T (T 413) ∧ ∀ g' p', g' < g → p' < T 412 8 → hlpB T (T 413) k g' p' = false) ⟨0, Nat.zero_le _, rfl, rfl, Q2, x2, fun g' p' q => absurd q (Nat.not_lt_zero _)⟩ (by omega) ?_
    rintro rec m s1 g3 ⟨g, hg, rfl, rfl, Q3, x3, no3⟩ ih
    have I3 := I.go Q3
    have S3 := I3.sh
    by_cases hlt : g < T 412 9
    · have el := endA_le hD hR hlt
      have ke := k_endAt S3 h152 hP x3 I3.y hD hR hlt (t := T 413 0) (by omega)
      simp (maxSteps := 3000000) (disch := first | assumption | omega | exact hR.all _) only [m_X11_helpfulHandOn_L52, bO_v, bR_v, bX_l, bX_r, bC_l, bC_r, aLet_v, nI_add, pk_mul, dvI_n, rmI_n, iMax_n, iMin_n, zO_0, zO_1, li_0, li_1, li_2, li_3, li_4, li_5, li_6, li_7, li_8, li_9, li_10, li_12, li_14, li_15, li_16, li_18, li_19, li_20, li_22, li_23, li_24, li_26, li_29, li_30, li_31, li_32, li_36, li_38, li_48, li_50, li_57, li_58, li_59, li_60, li_63, li_97, li_99, li_120, li_122, li_144, li_168, li_194, li_240, li_255, li_284, li_299, li_603, li_999, li_1200, li_1440, li_4095, li_4096, li_6030, li_16384, li_20160, zl0, zl1, zl2, zl3, zl4, ze01, ze02, ze03, ze04, ze10, ze12, ze13, ze14, ze20, ze21, ze23, ze24, ze30, ze31, ze32, ze34, ze40, ze41, ze42, ze43, zt0, zt1, zt2, zt3, zt4, zq0, zq1, zq2, zq3, zq4, it_t, it_f, Bool.true_eq_false, Bool.false_eq_true, na5, na4, na1441, na2, na10, sx_IOIA, sx_IOIS, sx_IONS, sx_IAIO, sx_IAIS, sx_IANS, sx_ISIO, sx_ISIA, sx_ISNS, sx_NSIO, sx_NSIA, sx_NSIS, I3.g3, p_cP_gi S3 hP, I3.y.nG, nI_ltI, c_pdr S3, s_cS_gi S3 h152, x3.tm, s_cS_gS S3 h152, ke]
      rw [if_pos hlt]
      refine aJ_gen (R := fun o => OK o _) (fun k168 hk168 => ?_)
      refine aL1_run (R := fun o => OK o _) (fun m s1 g4 => ∃ p, p ≤ T 412 8 ∧ m = T 412 8 - p ∧ s1 = nI p ∧ QF 0 h g4 ∧ StR g4 153 P T (T 413) ∧ ∀ p', p' < p → hlpB T (T 413) k g p' = false) ⟨0, Nat.zero_le _, rfl, rfl, Q3, x3, fun p' q => absurd q (Nat.not_lt_zero _)⟩ (by omega) ?_
      rintro rec2 m s1 g4 ⟨p, hp, rfl, rfl, Q4, x4, no4⟩ ih2
      have I4 := I.go Q4
      have S4 := I4.sh
      by_cases hp2 : p < T 412 8
      · have kr := k_reason S4 h152 hP x4 I4.y hD hR hlt hp2 (nI (endA T (T 413) g (T 413 0)))
        have rl : rsn T (T 413) g p (nI (endA T (T 413) g (T 413 0))) < 9 := by unfold rsn; (repeat' split) <;> omega
        simp (maxSteps := 3000000) (disch := first | assumption | omega | exact hR.all _) only [m_X11_helpfulHandOn_L82, bO_v, bR_v, bX_l, bX_r, bC_l, bC_r, aLet_v, nI_add, pk_mul, dvI_n, rmI_n, iMax_n, iMin_n, zO_0, zO_1, li_0, li_1, li_2, li_3, li_4, li_5, li_6, li_7, li_8, li_9, li_10, li_12, li_14, li_15, li_16, li_18, li_19, li_20, li_22, li_23, li_24, li_26, li_29, li_30, li_31, li_32, li_36, li_38, li_48, li_50, li_57, li_58, li_59, li_60, li_63, li_97, li_99, li_120, li_122, li_144, li_168, li_194, li_240, li_255, li_284, li_299, li_603, li_999, li_1200, li_1440, li_4095, li_4096, li_6030, li_16384, li_20160, zl0, zl1, zl2, zl3, zl4, ze01, ze02, ze03, ze04, ze10, ze12, ze13, ze14, ze20, ze21, ze23, ze24, ze30, ze31, ze32, ze34, ze40, ze41, ze42, ze43, zt0, zt1, zt2, zt3, zt4, zq0, zq1, zq2, zq3, zq4, it_t, it_f, Bool.true_eq_false, Bool.false_eq_true, na5, na4, na1441, na2, na10, sx_IOIA, sx_IOIS, sx_IONS, sx_IAIO, sx_IAIS, sx_IANS, sx_ISIO, sx_ISIA, sx_ISNS, sx_NSIO, sx_NSIA, sx_NSIS, I4.g3, p_cP_gi S4 hP, I4.y.nP, nI_ltI, c_pdr S4, s_cS_gS S4 h152, kr, nI_eq]
        rw [if_pos hp2]
        refine aJ_gen (R := fun o => OK o _) (fun k162 hk162 => ?_)
        have skip : ∀ g5, QF 0 h g5 → StR g5 153 P T (T 413) → hlpB T (T 413) k g p = false → OK (k162 g5) (fun r g1 => (false = true ∧ r = .inr "java/lang/IllegalStateException" ∧ ∃ g0, g1 = h_exc g0 ∧ QF 0 h g0) ∨ (false = false ∧ ∃ g p, g < T 412 9 ∧ p < T 412 8 ∧ HP T (T 413) k g p ∧ r = .inl (nI (g * 12 + p)) ∧ QF 0 h g1) ∨ (false = false ∧ (∀ g p, g < T 412 9 → p < T 412 8 → hlpB T (T 413) k g p = false) ∧ r = .inr "java/util/NoSuchElementException" ∧ ∃ g0, g1 = h_exc g0 ∧ QF 0 h g0)) := fun g5 q1 q2 q3 => by
          rw [hk162]
          simp only [bO_v, bR_v, bX_l, bX_r, bC_l, bC_r, aLet_v, nI_add, pk_mul, dvI_n, rmI_n, iMax_n, iMin_n, zO_0, zO_1, li_0, li_1, li_2, li_3, li_4, li_5, li_6, li_7, li_8, li_9, li_10, li_12, li_14, li_15, li_16, li_18, li_19, li_20, li_22, li_23, li_24, li_26, li_29, li_30, li_31, li_32, li_36, li_38, li_48, li_50, li_57, li_58, li_59, li_60, li_63, li_97, li_99, li_120, li_122, li_144, li_168, li_194, li_240, li_255, li_284, li_299, li_603, li_999, li_1200, li_1440, li_4095, li_4096, li_6030, li_16384, li_20160, zl0, zl1, zl2, zl3, zl4, ze01, ze02, ze03, ze04, ze10, ze12, ze13, ze14, ze20, ze21, ze23, ze24, ze30, ze31, ze32, ze34, ze40, ze41, ze42, ze43, zt0, zt1, zt2, zt3, zt4, zq0, zq1, zq2, zq3, zq4, it_t, it_f, Bool.true_eq_false, Bool.false_eq_true, na5, na4, na1441, na2, na10, sx_IOIA, sx_IOIS, sx_IONS, sx_IAIO, sx_IAIS, sx_IANS, sx_ISIO, sx_ISIA, sx_ISNS, sx_NSIO, sx_NSIA, sx_NSIS]
          refine ok_mono (ih2 _ _ _ (by omega) ⟨p + 1, hp2, rfl, rfl, q1, q2, fun p' hp' => ?_⟩) (fun r g9 q => by simpa using q)
          by_cases c9 : p' = p
          · rw [c9]; exact q3
          · exact no4 p' (by omega)
        by_cases c1 : rsn T (T 413) g p (nI (endA T (T 413) g (T 413 0))) = 0
        · rw [if_pos c1]
          obtain ⟨-, -, -, -, -, -, h3, -, -⟩ := rsn_0.mp c1
          have Rh := hd_R hD hR hlt hp2 h3 el.1 (Nat.le_refl _)
          refine ok_bR (k_addHandOn S4 h152 x4 hD hR hlt h3) (fun _ g5 hh => ?_)
          obtain ⟨F5, x5⟩ := hh
          have Q5 := Q4.trans (QF.fr F5 (fun o q j => by unfold SQ; omega))
          have I5 := I.go Q5
          have S5 := I5.sh
          obtain ⟨r6, g6, e6, er6, MF6, -, -, -⟩ := k_foresee S5 h152 hP x5 I5.y hD Rh hk
          have er7 : r6 = b2i (awB T (hdS (T 413) g p (endA T (T 413) g (T 413 0))) k) := er6
          rw [er7] at e6
          have Q6 := Q5.trans (QF.mu MF6)
          have I6 := I.go Q6
          have S6 := I6.sh
          have x6 : StR g6 153 P T (hdS (T 413) g p (endA T (T 413) g (T 413 0))) := x5.keep (fun o q1 q2 => funext fun j => MF6.2.2.2.2.2.1 o j (by unfold MUx; omega)) (MF6.2.2.2.2.2.2 _ _ (by omega))
          simp (maxSteps := 3000000) (disch := first | assumption | omega | exact hR.all _) only [bO_v, bR_v, bX_l, bX_r, bC_l, bC_r, aLet_v, nI_add, pk_mul, dvI_n, rmI_n, iMax_n, iMin_n, zO_0, zO_1, li_0, li_1, li_2, li_3, li_4, li_5, li_6, li_7, li_8, li_9, li_10, li_12, li_14, li_15, li_16, li_18, li_19, li_20, li_22, li_23, li_24, li_26, li_29, li_30, li_31, li_32, li_36, li_38, li_48, li_50, li_57, li_58, li_59, li_60, li_63, li_97, li_99, li_120, li_122, li_144, li_168, li_194, li_240, li_255, li_284, li_299, li_603, li_999, li_1200, li_1440, li_4095, li_4096, li_6030, li_16384, li_20160, zl0, zl1, zl2, zl3, zl4, ze01, ze02, ze03, ze04, ze10, ze12, ze13, ze14, ze20, ze21, ze23, ze24, ze30, ze31, ze32, ze34, ze40, ze41, ze42, ze43, zt0, zt1, zt2, zt3, zt4, zq0, zq1, zq2, zq3, zq4, it_t, it_f, Bool.true_eq_false, Bool.false_eq_true, na5, na4, na1441, na2, na10, sx_IOIA, sx_IOIS, sx_IONS, sx_IAIO, sx_IAIS, sx_IANS, sx_ISIO, sx_ISIA, sx_ISNS, sx_NSIO, sx_NSIA, sx_NSIS, c_pmu S5, c_pdr S5, I5.g3, p_pks S5 hP, p_ek_al S5 hP, c_cU_gS S5, e6, c_pdr S6, s_cS_gS S6 h152]
          refine ok_bR (k_dropHandOn S6 h152 x6 hD Rh hlt) (fun _ g7 hh => ?_)
          obtain ⟨F7, x7⟩ := hh
          have Q7 := Q6.trans (QF.fr F7 (fun o q j => by unfold SQ; omega))
          have dr := hd_dr (T := T) (S := T 413) (p := p) (u := endA T (T 413) g (T 413 0)) hD hlt h3
          have x8 : StR g7 153 P T (T 413) := x7.ext hD (dr_R hD Rh hlt) (fun j hj => (dr j (fun q => hj (by
            rcases q with q | ⟨g', k', q1, q2, q3, q4⟩
            · exact Or.inl q
            · exact Or.inr ⟨g', k', q1, by rw [dr _ (ng (by omega) (by omega))]; exact q2, q3, q4⟩))).symm)
          have hv : hlpB T (T 413) k g p = awB T (hdS (T 413) g p (endA T (T 413) g (T 413 0))) k := by
            unfold hlpB
            rw [decide_eq_true c1, Bool.true_and]
          simp only [b2i_0]
          cases cb : awB T (hdS (T 413) g p (endA T (T 413) g (T 413 0))) k
          · rw [if_pos rfl]
            refine ok_mono (skip g7 Q7 x8 (by rw [hv, cb])) (fun r g9 q => by simpa using q)
          · rw [if_neg (by decide), hk154]
            refine ok_ret (Or.inr (Or.inl ⟨by trivial, g, p, hlt, hp2, ⟨by rw [hv, cb], fun g' p' q1 q2 q3 => ?_⟩, by rw [pk_mul, nI_add], Q7⟩))
            rcases q3 with q3 | ⟨q3, q4⟩
            · exact no3 g' p' q3 q2
            · rw [q3]; exact no4 p' q4
        · rw [if_neg c1]
          refine ok_mono (skip g4 Q4 x4 (by unfold hlpB; rw [decide_eq_false c1, Bool.false_and])) (fun r g9 q => by simpa using q)
      · obtain rfl : p = T 412 8 := by omega
        simp (maxSteps := 3000000) (disch := first | assumption | omega | exact hR.all _) only [m_X11_helpfulHandOn_L82, bO_v, bR_v, bX_l, bX_r, bC_l, bC_r, aLet_v, nI_add, pk_mul, dvI_n, rmI_n, iMax_n, iMin_n, zO_0, zO_1, li_0, li_1, li_2, li_3, li_4, li_5, li_6, li_7, li_8, li_9, li_10, li_12, li_14, li_15, li_16, li_18, li_19, li_20, li_22, li_23, li_24, li_26, li_29, li_30, li_31, li_32, li_36, li_38, li_48, li_50, li_57, li_58, li_59, li_60, li_63, li_97, li_99, li_120, li_122, li_144, li_168, li_194, li_240, li_255, li_284, li_299, li_603, li_999, li_1200, li_1440, li_4095, li_4096, li_6030, li_16384, li_20160, zl0, zl1, zl2, zl3, zl4, ze01, ze02, ze03, ze04, ze10, ze12, ze13, ze14, ze20, ze21, ze23, ze24, ze30, ze31, ze32, ze34, ze40, ze41, ze42, ze43, zt0, zt1, zt2, zt3, zt4, zq0, zq1, zq2, zq3, zq4, it_t, it_f, Bool.true_eq_false, Bool.false_eq_true, na5, na4, na1441, na2, na10, sx_IOIA, sx_IOIS, sx_IONS, sx_IAIO, sx_IAIS, sx_IANS, sx_ISIO, sx_ISIA, sx_ISNS, sx_NSIO, sx_NSIA, sx_NSIS, I4.g3, p_cP_gi S4 hP, I4.y.nP, nI_ltI, hk168]
        rw [if_neg hp2]
        refine ih _ _ _ (by omega) ⟨g + 1, hlt, rfl, rfl, Q4, x4, fun g' p' q1 q2 => ?_⟩
        by_cases c9 : g' = g
        · rw [c9]; exact no4 p' q2
        · exact no3 g' p' (by omega) q2
    · obtain rfl : g = T 412 9 := by omega
      simp (maxSteps := 3000000) (disch := first | assumption | omega | exact hR.all _) only [m_X11_helpfulHandOn_L52, bO_v, bR_v, bX_l, bX_r, bC_l, bC_r, aLet_v, nI_add, pk_mul, dvI_n, rmI_n, iMax_n, iMin_n, zO_0, zO_1, li_0, li_1, li_2, li_3, li_4, li_5, li_6, li_7, li_8, li_9, li_10, li_12, li_14, li_15, li_16, li_18, li_19, li_20, li_22, li_23, li_24, li_26, li_29, li_30, li_31, li_32, li_36, li_38, li_48, li_50, li_57, li_58, li_59, li_60, li_63, li_97, li_99, li_120, li_122, li_144, li_168, li_194, li_240, li_255, li_284, li_299, li_603, li_999, li_1200, li_1440, li_4095, li_4096, li_6030, li_16384, li_20160, zl0, zl1, zl2, zl3, zl4, ze01, ze02, ze03, ze04, ze10, ze12, ze13, ze14, ze20, ze21, ze23, ze24, ze30, ze31, ze32, ze34, ze40, ze41, ze42, ze43, zt0, zt1, zt2, zt3, zt4, zq0, zq1, zq2, zq3, zq4, it_t, it_f, Bool.true_eq_false, Bool.false_eq_true, na5, na4, na1441, na2, na10, sx_IOIA, sx_IOIS, sx_IONS, sx_IAIO, sx_IAIS, sx_IANS, sx_ISIO, sx_ISIA, sx_ISNS, sx_NSIO, sx_NSIA, sx_NSIS, I3.g3, p_cP_gi S3 hP, I3.y.nG, nI_ltI, hk174]
      rw [if_neg hlt]
      exact ok_ret (Or.inr (Or.inr ⟨by trivial, no3, rfl, g3, rfl, Q3⟩))
  · rw [if_neg (by decide)]
    exact ok_ret (Or.inl ⟨by trivial, rfl, g1, rfl, Q1⟩)
/-- only the row was written, and what no later call reads -/
theorem IV.gar2 (I : IV h T P Q) {h2 : aH} {S : Nat → Nat} (F : Fx (fun o k => o = 413 ∨ SQ o k) h h2) (hw : ∀ j, h_iv h2 413 j = nI (S j)) (e : ∀ j, ¬ garb (T 413) j → S j = T 413 j) (hb : ∀ j, S j < 2147483600) : IV h2 (setW T S) P Q := by
  have v : h_iv (h_copy h 413 (h_iv h2 413)) 413 = h_iv h2 413 := by
    show up1 (h_iv h) 413 _ 413 = _
    exact if_pos rfl
  have x : RW h (h_copy h 413 (h_iv h2 413)) S := ⟨Fr.copy rfl, fun j => by rw [v]; exact hw j⟩
  refine (I.gar x e hb).go (c := 0) ?_
  obtain ⟨f1, f2, f3, f4, f5, f6, f7⟩ := F
  refine QF.fx (A := SQ) ⟨f1, f2, f3, f4, f5, f6, fun o k hk => ?_⟩ (fun _ _ q => q)
  by_cases c : o = 413
  · rw [c, v]
  · rw [x.1.iv c]
    exact f7 o k (fun q => q.elim c hk)
theorem r_help (I : IV h T P Q) {k : Nat} (hk : k < T 412 11) {code g p : Nat} (O : (code = 2 ∧ awB T (T 413) k = true) ∨ (code = 3 ∧ awB T (T 413) k = false ∧ ∀ g p, g < T 412 9 → p < T 412 8 → hlpB T (T 413) k g p = false) ∨ (code = 0 ∧ awB T (T 413) k = false ∧ g < T 412 9 ∧ p < T 412 8 ∧ HP T (T 413) k g p)) :
    OK (m_X12_helps 412 (nI k) h) (fun r h2 => (∃ T', IV h2 T' P Q) ∧ h_nx h2 = h_nx h ∧ h_sl h2 = h_sl h ∧ h_lv h2 = h_lv h ∧ h_iv h2 412 0 = nI code ∧ (code = 0 → r = nI (16 * g + p)) ∧ (code ≠ 0 → r = nI 0)) := by
  have hD := I.D
  have hR := I.R
  have d0 := hD.nP
  have d1 := hD.nG
  have d3 := hD.nK
  have d4 := hR.tm
  have S1 := I.sh
  have z1 := I.z
  have c := inr_n hk (show k < 2147483648 by omega)
  have S0 : Sh (h_si h 412 0 (nI 0)) := S1.si _ _ _
  have z0 : RefR (h_si h 412 0 (nI 0)) T := z1.rz
  have fin : ∀ (S' : Nat → Nat) h2, Fx (fun o k => o = 413 ∨ SQ o k) h h2 → (∀ j, h_iv h2 413 j = nI (S' j)) → (∀ j, ¬ garb (T 413) j → S' j = T 413 j) → (∀ j, S' j < 2147483600) → (∃ T', IV h2 T' P Q) ∧ h_nx h2 = h_nx h ∧ h_sl h2 = h_sl h ∧ h_lv h2 = h_lv h := fun S' h2 F v e hb => ⟨⟨_, I.gar2 F v e hb⟩, F.1, F.2.1, F.2.2.2.2.2.1⟩
  generalize hPost : (fun (r : Int32) (h2 : aH) => (∃ T', IV h2 T' P Q) ∧ h_nx h2 = h_nx h ∧ h_sl h2 = h_sl h ∧ h_lv h2 = h_lv h ∧ h_iv h2 412 0 = nI code ∧ (code = 0 → r = nI (16 * g + p)) ∧ (code ≠ 0 → r = nI 0)) = Post
  have F00 : Fx (fun o k => o = 413 ∨ SQ o k) h (h_si h 412 0 (nI 0)) := Fx.si (Or.inr (by unfold SQ; omega))
  simp (maxSteps := 3000000) (disch := first | assumption | omega | exact hR.all _) only [m_X12_helps, bO_v, bR_v, bX_l, bX_r, bC_l, bC_r, aLet_v, nI_add, pk_mul, dvI_n, rmI_n, iMax_n, iMin_n, zO_0, zO_1, li_0, li_1, li_2, li_3, li_4, li_5, li_6, li_7, li_8, li_9, li_10, li_12, li_14, li_15, li_16, li_18, li_19, li_20, li_22, li_23, li_24, li_26, li_29, li_30, li_31, li_32, li_36, li_38, li_48, li_50, li_57, li_58, li_59, li_60, li_63, li_97, li_99, li_120, li_122, li_144, li_168, li_194, li_240, li_255, li_284, li_299, li_603, li_999, li_1200, li_1440, li_4095, li_4096, li_6030, li_16384, li_20160, zl0, zl1, zl2, zl3, zl4, ze01, ze02, ze03, ze04, ze10, ze12, ze13, ze14, ze20, ze21, ze23, ze24, ze30, ze31, ze32, ze34, ze40, ze41, ze42, ze43, zt0, zt1, zt2, zt3, zt4, zq0, zq1, zq2, zq3, zq4, it_t, it_f, Bool.true_eq_false, Bool.false_eq_true, na5, na4, na1441, na2, na10, sx_IOIA, sx_IOIS, sx_IONS, sx_IAIO, sx_IAIS, sx_IANS, sx_ISIO, sx_ISIA, sx_ISNS, sx_NSIO, sx_NSIA, sx_NSIS, r_cM_gS S1, r_isKind S1 z1 hD, b2i_0, c]
  rw [aJ_v]
  simp (maxSteps := 3000000) (disch := first | assumption | omega | exact hR.all _) only [bO_v, bR_v, bX_l, bX_r, bC_l, bC_r, aLet_v, nI_add, pk_mul, dvI_n, rmI_n, iMax_n, iMin_n, zO_0, zO_1, li_0, li_1, li_2, li_3, li_4, li_5, li_6, li_7, li_8, li_9, li_10, li_12, li_14, li_15, li_16, li_18, li_19, li_20, li_22, li_23, li_24, li_26, li_29, li_30, li_31, li_32, li_36, li_38, li_48, li_50, li_57, li_58, li_59, li_60, li_63, li_97, li_99, li_120, li_122, li_144, li_168, li_194, li_240, li_255, li_284, li_299, li_603, li_999, li_1200, li_1440, li_4095, li_4096, li_6030, li_16384, li_20160, zl0, zl1, zl2, zl3, zl4, ze01, ze02, ze03, ze04, ze10, ze12, ze13, ze14, ze20, ze21, ze23, ze24, ze30, ze31, ze32, ze34, ze40, ze41, ze42, ze43, zt0, zt1, zt2, zt3, zt4, zq0, zq1, zq2, zq3, zq4, it_t, it_f, Bool.true_eq_false, Bool.false_eq_true, na5, na4, na1441, na2, na10, sx_IOIA, sx_IOIS, sx_IONS, sx_IAIO, sx_IAIS, sx_IANS, sx_ISIO, sx_ISIA, sx_ISNS, sx_NSIO, sx_NSIA, sx_NSIS, r_cM_pi S1, rz_gi S1, nI_leI, r_cM_gS S0]
  refine ok_bR (r_answers S0 z0 hD hR hk) (fun r g2 hh => ?_)
  obtain ⟨er, F2⟩ := hh
  have er2 : r = b2i (awB T (T 413) k) := er
  rw [er2]
  have S2 := F2.sh S0
  have F02 : Fx (fun o k => o = 413 ∨ SQ o k) h g2 := F00.trans (F2.mono (fun o k q => Or.inr (SCx_q q)))
  have v2 : ∀ j, h_iv g2 413 j = nI (T 413 j) := fun j => by rw [F2.iv (by unfold SCx; omega)]; exact z0.c413 j
  simp (maxSteps := 3000000) (disch := first | assumption | omega | exact hR.all _) only [b2i_0]
  cases ca : awB T (T 413) k
  · have n2 : code ≠ 2 := fun q => by
      rcases O with o | o | o
      · rw [ca] at o; cases o.2
      · omega
      · omega
    rw [aJ_v, if_pos rfl]
    have S3 : Sh (h_si g2 412 0 (nI 0)) := S2.si _ _ _
    have F03 : Fx (fun o k => o = 413 ∨ SQ o k) h (h_si g2 412 0 (nI 0)) := F02.trans (Fx.si (Or.inr (by unfold SQ; omega)))
    have v3 : ∀ j, h_iv (h_si g2 412 0 (nI 0)) 413 j = nI (T 413 j) := fun j => by rw [si_ne (by omega)]; exact v2 j
    simp (maxSteps := 3000000) (disch := first | assumption | omega | exact hR.all _) only [bO_v, bR_v, bX_l, bX_r, bC_l, bC_r, aLet_v, nI_add, pk_mul, dvI_n, rmI_n, iMax_n, iMin_n, zO_0, zO_1, li_0, li_1, li_2, li_3, li_4, li_5, li_6, li_7, li_8, li_9, li_10, li_12, li_14, li_15, li_16, li_18, li_19, li_20, li_22, li_23, li_24, li_26, li_29, li_30, li_31, li_32, li_36, li_38, li_48, li_50, li_57, li_58, li_59, li_60, li_63, li_97, li_99, li_120, li_122, li_144, li_168, li_194, li_240, li_255, li_284, li_299, li_603, li_999, li_1200, li_1440, li_4095, li_4096, li_6030, li_16384, li_20160, zl0, zl1, zl2, zl3, zl4, ze01, ze02, ze03, ze04, ze10, ze12, ze13, ze14, ze20, ze21, ze23, ze24, ze30, ze31, ze32, ze34, ze40, ze41, ze42, ze43, zt0, zt1, zt2, zt3, zt4, zq0, zq1, zq2, zq3, zq4, it_t, it_f, Bool.true_eq_false, Bool.false_eq_true, na5, na4, na1441, na2, na10, sx_IOIA, sx_IOIS, sx_IONS, sx_IAIO, sx_IAIS, sx_IANS, sx_ISIO, sx_ISIA, sx_ISNS, sx_NSIO, sx_NSIA, sx_NSIS, r_cM_pi S2, rz_gi S2, nI_leI, r_cM_gS S3, m_X12_helpful]
    generalize h_si g2 412 0 (nI 0) = g3 at S3 F03 v3
    refine ok_bR (Q := fun r g9 => ∃ S' : Nat → Nat, Fx (fun o k => o = 413 ∨ SQ o k) h g9 ∧ (∀ j, h_iv g9 413 j = nI (S' j)) ∧ (∀ j, ¬ garb (T 413) j → S' j = T 413 j) ∧ (∀ j, S' j < 2147483600) ∧ ((code = 3 ∧ r = -nI 1) ∨ (code = 0 ∧ r = nI (16 * g + p) ∧ g < 6 ∧ p < 12))) ?_ (fun r g9 hh => ?_)
    · refine aJ_gen (R := fun o => OK o _) (fun k97 hk97 => ?_)
      refine aJ_gen (R := fun o => OK o _) (fun k78 hk78 => ?_)
      have zz : ∀ (S' : Nat → Nat) g5, Fx (fun o k => o = 413 ∨ SQ o k) h g5 → (∀ j, h_iv g5 413 j = nI (S' j)) → (∀ j, S' j < 2147483600) → RefR g5 (setW T S') := fun S' g5 F v hb => ⟨fun o k q => by
        by_cases e : o = 413
        · rw [e, setW_w]; exact v k
        · rw [setW_n e, F.iv (fun q2 => by
            rcases q2 with q2 | q2
            · exact e q2
            · unfold rfC at q; unfold SQ at q2; omega)]
          exact z1.1 o k q, fun o k => by
        by_cases e : o = 413
        · rw [e, setW_w]; exact Nat.lt_trans (hb k) (by decide)
        · rw [setW_n e]; exact z1.2 o k⟩
      refine aL1_run (R := fun o => OK o _) (fun m s1 g4 => ∃ g' S', g' ≤ T 412 9 ∧ m = T 412 9 - g' ∧ s1 = nI g' ∧ Fx (fun o k => o = 413 ∨ SQ o k) h g4 ∧ (∀ j, h_iv g4 413 j = nI (S' j)) ∧ (∀ j, ¬ garb (T 413) j → S' j = T 413 j) ∧ RwD T S' ∧ ∀ g2 p2, g2 < g' → p2 < T 412 8 → hlpB T (T 413) k g2 p2 = false) ⟨0, T 413, Nat.zero_le _, rfl, rfl, F03, v3, fun _ _ => rfl, hR, fun g2 p2 q => absurd q (Nat.not_lt_zero _)⟩ (by omega) ?_
      rintro rec m s1 g4 ⟨g', S', hg, rfl, rfl, F4, v4, e4, R4, no4⟩ ih
      have S4 := F4.sh S1
      have z4 := zz S' g4 F4 v4 R4.big
      by_cases hlt : g' < T 412 9
      · have f9 : h_iv g4 412 9 = nI (T 412 9) := z4.f9
        simp (maxSteps := 3000000) (disch := first | assumption | omega | exact hR.all _) only [m_X12_helpful_L2, bO_v, bR_v, bX_l, bX_r, bC_l, bC_r, aLet_v, nI_add, pk_mul, dvI_n, rmI_n, iMax_n, iMin_n, zO_0, zO_1, li_0, li_1, li_2, li_3, li_4, li_5, li_6, li_7, li_8, li_9, li_10, li_12, li_14, li_15, li_16, li_18, li_19, li_20, li_22, li_23, li_24, li_26, li_29, li_30, li_31, li_32, li_36, li_38, li_48, li_50, li_57, li_58, li_59, li_60, li_63, li_97, li_99, li_120, li_122, li_144, li_168, li_194, li_240, li_255, li_284, li_299, li_603, li_999, li_1200, li_1440, li_4095, li_4096, li_6030, li_16384, li_20160, zl0, zl1, zl2, zl3, zl4, ze01, ze02, ze03, ze04, ze10, ze12, ze13, ze14, ze20, ze21, ze23, ze24, ze30, ze31, ze32, ze34, ze40, ze41, ze42, ze43, zt0, zt1, zt2, zt3, zt4, zq0, zq1, zq2, zq3, zq4, it_t, it_f, Bool.true_eq_false, Bool.false_eq_true, na5, na4, na1441, na2, na10, sx_IOIA, sx_IOIS, sx_IONS, sx_IAIO, sx_IAIS, sx_IANS, sx_ISIO, sx_ISIA, sx_ISNS, sx_NSIO, sx_NSIA, sx_NSIS, r_cM_gi S4, f9, nI_ltI]
        rw [if_pos hlt]
        refine aJ_gen (R := fun o => OK o _) (fun k91 hk91 => ?_)
        have el := endA_le hD hR hlt
        refine aL1_run (R := fun o => OK o _) (fun m s1 g5 => ∃ p' S', p' ≤ T 412 8 ∧ m = T 412 8 - p' ∧ s1 = nI p' ∧ Fx (fun o k => o = 413 ∨ SQ o k) h g5 ∧ (∀ j, h_iv g5 413 j = nI (S' j)) ∧ (∀ j, ¬ garb (T 413) j → S' j = T 413 j) ∧ RwD T S' ∧ ∀ p2, p2 < p' → hlpB T (T 413) k g' p2 = false) ⟨0, S', Nat.zero_le _, rfl, rfl, F4, v4, e4, R4, fun p2 q => absurd q (Nat.not_lt_zero _)⟩ (by omega) ?_
        rintro rec2 m s1 g5 ⟨p', S5, hp, rfl, rfl, F5, v5, e5, R5, no5⟩ ih2
        have Sh5 := F5.sh S1
        have z5 := zz S5 g5 F5 v5 R5.big
        have f8 : h_iv g5 412 8 = nI (T 412 8) := z5.f8
        by_cases hp2 : p' < T 412 8
        · have ee := endA_ext hD hR R5 e5 hlt
          have re : m_X12_endOf 412 (nI g') g5 = some (nI (endA T (T 413) g' (T 413 0)), g5) := by
            have q := r_endOf (T := setW T S5) Sh5 z5 hD (by rw [setW_w]; exact R5) (g := g') hlt
            rw [setW_w] at q
            rw [← ee]
            exact q
          have ra := r_ag (h := g5) (T := setW T S5) z5 Sh5 hD ⟨Fr.rf, v5⟩ R5 (g := g') (p := p') hlt hp2 (nI (endA T (T 413) g' (T 413 0)))
          have ra2 : m_X12_against 412 (nI g') (nI p') (nI (endA T (T 413) g' (T 413 0))) g5 = some (nI (rsn T S5 g' p' (nI (endA T (T 413) g' (T 413 0)))), g5) := ra
          rw [rsn_ext hD hR R5 e5 hlt hp2] at ra2
          have rl : rsn T (T 413) g' p' (nI (endA T (T 413) g' (T 413 0))) < 9 := by unfold rsn; (repeat' split) <;> omega
          simp (maxSteps := 3000000) (disch := first | assumption | omega | exact hR.all _) only [m_X12_helpful_L12, bO_v, bR_v, bX_l, bX_r, bC_l, bC_r, aLet_v, nI_add, pk_mul, dvI_n, rmI_n, iMax_n, iMin_n, zO_0, zO_1, li_0, li_1, li_2, li_3, li_4, li_5, li_6, li_7, li_8, li_9, li_10, li_12, li_14, li_15, li_16, li_18, li_19, li_20, li_22, li_23, li_24, li_26, li_29, li_30, li_31, li_32, li_36, li_38, li_48, li_50, li_57, li_58, li_59, li_60, li_63, li_97, li_99, li_120, li_122, li_144, li_168, li_194, li_240, li_255, li_284, li_299, li_603, li_999, li_1200, li_1440, li_4095, li_4096, li_6030, li_16384, li_20160, zl0, zl1, zl2, zl3, zl4, ze01, ze02, ze03, ze04, ze10, ze12, ze13, ze14, ze20, ze21, ze23, ze24, ze30, ze31, ze32, ze34, ze40, ze41, ze42, ze43, zt0, zt1, zt2, zt3, zt4, zq0, zq1, zq2, zq3, zq4, it_t, it_f, Bool.true_eq_false, Bool.false_eq_true, na5, na4, na1441, na2, na10, sx_IOIA, sx_IOIS, sx_IONS, sx_IAIO, sx_IAIS, sx_IANS, sx_ISIO, sx_ISIA, sx_ISNS, sx_NSIO, sx_NSIA, sx_NSIS, r_cM_gi Sh5, f8, nI_ltI, r_cM_gS Sh5, re, ra2, nI_eq]
          rw [if_pos hp2]
          refine aJ_gen (R := fun o => OK o _) (fun k85 hk85 => ?_)
          by_cases c1 : rsn T (T 413) g' p' (nI (endA T (T 413) g' (T 413 0))) = 0
          · rw [if_pos c1]
            obtain ⟨-, -, -, -, -, -, h3, -, -⟩ := rsn_0.mp c1
            have en : S5 (194 + 15 * g' + 8) = T 413 (194 + 15 * g' + 8) := e5 _ (ng (by omega) (by omega))
            have h35 : S5 (194 + 15 * g' + 8) < 3 := by rw [en]; exact h3
            have Rh0 := hd_R hD hR hlt hp2 h3 el.1 (Nat.le_refl _)
            have e50 : S5 0 = T 413 0 := e5 _ (ng (by omega) (by omega))
            have Rh := hd_R hD R5 hlt hp2 h35 (u := endA T (T 413) g' (T 413 0)) (by omega) (by rw [ee]; exact Nat.le_refl _)
            refine ok_bR (r_hands_ Sh5 (p := p') (u := endA T (T 413) g' (T 413 0)) (show g' < 6 by omega) v5 h35) (fun _ g6 w6 => ?_)
            have S6 := w6.1.sh Sh5
            have ea := r_answersW Sh5 z5 hD (h1 := g6) (S := hdS S5 g' p' (endA T (T 413) g' (T 413 0))) w6 Rh (k := k) hk
            simp only [r_cM_gS S6]
            refine ok_bR ea (fun r7 g7 hh => ?_)
            obtain ⟨er7, F7⟩ := hh
            have er8 : r7 = b2i (awB T (hdS (T 413) g' p' (endA T (T 413) g' (T 413 0))) k) := by
              rw [er7, ← aw_ext hD Rh0 (hdS_gar (by omega) h3 e5) hk]
              unfold awB
              rw [plV_w]
              rfl
            have hv : hlpB T (T 413) k g' p' = awB T (hdS (T 413) g' p' (endA T (T 413) g' (T 413 0))) k := by
              unfold hlpB
              rw [decide_eq_true c1, Bool.true_and]
            have S7 := F7.sh S6
            have v7 : ∀ j, h_iv g7 413 j = nI (hdS S5 g' p' (endA T (T 413) g' (T 413 0)) j) := fun j => by rw [F7.iv (by unfold SCx; omega)]; exact w6.2 j
            have v78 : h_iv g7 413 (194 + 15 * g' + 8) = nI (S5 (194 + 15 * g' + 8) + 1) := by rw [v7, hdS_n]
            have F8 : Fx (fun o k => o = 413 ∨ SQ o k) h (h_si g7 413 (194 + 15 * g' + 8) (nI (S5 (194 + 15 * g' + 8)))) := ((F5.trans (w6.1.fx.mono (fun o k q => Or.inl q))).trans (F7.mono (fun o k q => Or.inr (SCx_q q)))).trans (Fx.si (Or.inl rfl))
            have v8 : ∀ j, h_iv (h_si g7 413 (194 + 15 * g' + 8) (nI (S5 (194 + 15 * g' + 8)))) 413 j = nI (drS (hdS S5 g' p' (endA T (T 413) g' (T 413 0))) g' j) := fun j => by
              by_cases c9 : j = 194 + 15 * g' + 8
              · rw [c9, si_at, drS_n, hdS_n, Nat.add_sub_cancel]
              · rw [si_ne (by omega), v7 j, drS_o c9]
            have e8 := garb_tr e5 (hd_dr (T := T) (S := S5) (p := p') (u := endA T (T 413) g' (T 413 0)) hD hlt h35)
            have R8 := dr_R hD Rh hlt
            rw [er8]
            simp (maxSteps := 3000000) (disch := first | assumption | omega | exact hR.all _) only [bO_v, bR_v, bX_l, bX_r, bC_l, bC_r, aLet_v, nI_add, pk_mul, dvI_n, rmI_n, iMax_n, iMin_n, zO_0, zO_1, li_0, li_1, li_2, li_3, li_4, li_5, li_6, li_7, li_8, li_9, li_10, li_12, li_14, li_15, li_16, li_18, li_19, li_20, li_22, li_23, li_24, li_26, li_29, li_30, li_31, li_32, li_36, li_38, li_48, li_50, li_57, li_58, li_59, li_60, li_63, li_97, li_99, li_120, li_122, li_144, li_168, li_194, li_240, li_255, li_284, li_299, li_603, li_999, li_1200, li_1440, li_4095, li_4096, li_6030, li_16384, li_20160, zl0, zl1, zl2, zl3, zl4, ze01, ze02, ze03, ze04, ze10, ze12, ze13, ze14, ze20, ze21, ze23, ze24, ze30, ze31, ze32, ze34, ze40, ze41, ze42, ze43, zt0, zt1, zt2, zt3, zt4, zq0, zq1, zq2, zq3, zq4, it_t, it_f, Bool.true_eq_false, Bool.false_eq_true, na5, na4, na1441, na2, na10, sx_IOIA, sx_IOIS, sx_IONS, sx_IAIO, sx_IAIS, sx_IANS, sx_ISIO, sx_ISIA, sx_ISNS, sx_NSIO, sx_NSIA, sx_NSIS, r_p413 S7, r_c413_al S7, r_c413_as S7, v78, pk_sub, Nat.add_sub_cancel, b2i_0]
            cases cb : awB T (hdS (T 413) g' p' (endA T (T 413) g' (T 413 0))) k
            · rw [if_pos rfl, hk85]
              simp only [bO_v, bR_v, bX_l, bX_r, bC_l, bC_r, aLet_v, nI_add, pk_mul, dvI_n, rmI_n, iMax_n, iMin_n, zO_0, zO_1, li_0, li_1, li_2, li_3, li_4, li_5, li_6, li_7, li_8, li_9, li_10, li_12, li_14, li_15, li_16, li_18, li_19, li_20, li_22, li_23, li_24, li_26, li_29, li_30, li_31, li_32, li_36, li_38, li_48, li_50, li_57, li_58, li_59, li_60, li_63, li_97, li_99, li_120, li_122, li_144, li_168, li_194, li_240, li_255, li_284, li_299, li_603, li_999, li_1200, li_1440, li_4095, li_4096, li_6030, li_16384, li_20160, zl0, zl1, zl2, zl3, zl4, ze01, ze02, ze03, ze04, ze10, ze12, ze13, ze14, ze20, ze21, ze23, ze24, ze30, ze31, ze32, ze34, ze40, ze41, ze42, ze43, zt0, zt1, zt2, zt3, zt4, zq0, zq1, zq2, zq3, zq4, it_t, it_f, Bool.true_eq_false, Bool.false_eq_true, na5, na4, na1441, na2, na10, sx_IOIA, sx_IOIS, sx_IONS, sx_IAIO, sx_IAIS, sx_IANS, sx_ISIO, sx_ISIA, sx_ISNS, sx_NSIO, sx_NSIA, sx_NSIS]
              refine ih2 _ _ _ (by omega) ⟨p' + 1, _, hp2, rfl, rfl, F8, v8, e8, R8, fun p2 q => ?_⟩
              by_cases c9 : p2 = p'
              · rw [c9, hv, cb]
              · exact no5 p2 (by omega)
            · rw [if_neg (by decide), hk78]
              simp (maxSteps := 3000000) (disch := first | assumption | omega | exact hR.all _) only [bO_v, bR_v, bX_l, bX_r, bC_l, bC_r, aLet_v, nI_add, pk_mul, dvI_n, rmI_n, iMax_n, iMin_n, zO_0, zO_1, li_0, li_1, li_2, li_3, li_4, li_5, li_6, li_7, li_8, li_9, li_10, li_12, li_14, li_15, li_16, li_18, li_19, li_20, li_22, li_23, li_24, li_26, li_29, li_30, li_31, li_32, li_36, li_38, li_48, li_50, li_57, li_58, li_59, li_60, li_63, li_97, li_99, li_120, li_122, li_144, li_168, li_194, li_240, li_255, li_284, li_299, li_603, li_999, li_1200, li_1440, li_4095, li_4096, li_6030, li_16384, li_20160, zl0, zl1, zl2, zl3, zl4, ze01, ze02, ze03, ze04, ze10, ze12, ze13, ze14, ze20, ze21, ze23, ze24, ze30, ze31, ze32, ze34, ze40, ze41, ze42, ze43, zt0, zt1, zt2, zt3, zt4, zq0, zq1, zq2, zq3, zq4, it_t, it_f, Bool.true_eq_false, Bool.false_eq_true, na5, na4, na1441, na2, na10, sx_IOIA, sx_IOIS, sx_IONS, sx_IAIO, sx_IAIS, sx_IANS, sx_ISIO, sx_ISIA, sx_ISNS, sx_NSIO, sx_NSIA, sx_NSIS]
              have hp9 : HP T (T 413) k g' p' := ⟨by rw [hv, cb], fun g2 p2 q1 q2 q3 => by
                rcases q3 with q3 | ⟨q3, q4⟩
                · exact no4 g2 p2 q3 q2
                · rw [q3]; exact no5 p2 q4⟩
              refine ok_ret ⟨_, F8, v8, e8, R8.big, ?_⟩
              rcases O with o | o | o
              · omega
              · have := o.2.2 g' p' hlt hp2
                rw [hp9.1] at this; cases this
              · obtain ⟨q1, q2⟩ := HP_one o.2.2.2.2 o.2.2.1 o.2.2.2.1 hp9 hlt hp2
                exact Or.inr ⟨o.1, by rw [q1, q2], by omega, by omega⟩
          · rw [if_neg c1, hk85]
            simp only [bO_v, bR_v, bX_l, bX_r, bC_l, bC_r, aLet_v, nI_add, pk_mul, dvI_n, rmI_n, iMax_n, iMin_n, zO_0, zO_1, li_0, li_1, li_2, li_3, li_4, li_5, li_6, li_7, li_8, li_9, li_10, li_12, li_14, li_15, li_16, li_18, li_19, li_20, li_22, li_23, li_24, li_26, li_29, li_30, li_31, li_32, li_36, li_38, li_48, li_50, li_57, li_58, li_59, li_60, li_63, li_97, li_99, li_120, li_122, li_144, li_168, li_194, li_240, li_255, li_284, li_299, li_603, li_999, li_1200, li_1440, li_4095, li_4096, li_6030, li_16384, li_20160, zl0, zl1, zl2, zl3, zl4, ze01, ze02, ze03, ze04, ze10, ze12, ze13, ze14, ze20, ze21, ze23, ze24, ze30, ze31, ze32, ze34, ze40, ze41, ze42, ze43, zt0, zt1, zt2, zt3, zt4, zq0, zq1, zq2, zq3, zq4, it_t, it_f, Bool.true_eq_false, Bool.false_eq_true, na5, na4, na1441, na2, na10, sx_IOIA, sx_IOIS, sx_IONS, sx_IAIO, sx_IAIS, sx_IANS, sx_ISIO, sx_ISIA, sx_ISNS, sx_NSIO, sx_NSIA, sx_NSIS]
            refine ih2 _ _ _ (by omega) ⟨p' + 1, S5, hp2, rfl, rfl, F5, v5, e5, R5, fun p2 q => ?_⟩
            by_cases c9 : p2 = p'
            · rw [c9]; unfold hlpB; rw [decide_eq_false c1, Bool.false_and]
            · exact no5 p2 (by omega)
        · obtain rfl : p' = T 412 8 := by omega
          simp (maxSteps := 3000000) (disch := first | assumption | omega | exact hR.all _) only [m_X12_helpful_L12, bO_v, bR_v, bX_l, bX_r, bC_l, bC_r, aLet_v, nI_add, pk_mul, dvI_n, rmI_n, iMax_n, iMin_n, zO_0, zO_1, li_0, li_1, li_2, li_3, li_4, li_5, li_6, li_7, li_8, li_9, li_10, li_12, li_14, li_15, li_16, li_18, li_19, li_20, li_22, li_23, li_24, li_26, li_29, li_30, li_31, li_32, li_36, li_38, li_48, li_50, li_57, li_58, li_59, li_60, li_63, li_97, li_99, li_120, li_122, li_144, li_168, li_194, li_240, li_255, li_284, li_299, li_603, li_999, li_1200, li_1440, li_4095, li_4096, li_6030, li_16384, li_20160, zl0, zl1, zl2, zl3, zl4, ze01, ze02, ze03, ze04, ze10, ze12, ze13, ze14, ze20, ze21, ze23, ze24, ze30, ze31, ze32, ze34, ze40, ze41, ze42, ze43, zt0, zt1, zt2, zt3, zt4, zq0, zq1, zq2, zq3, zq4, it_t, it_f, Bool.true_eq_false, Bool.false_eq_true, na5, na4, na1441, na2, na10, sx_IOIA, sx_IOIS, sx_IONS, sx_IAIO, sx_IAIS, sx_IANS, sx_ISIO, sx_ISIA, sx_ISNS, sx_NSIO, sx_NSIA, sx_NSIS, r_cM_gi Sh5, f8, nI_ltI, hk91]
          rw [if_neg hp2]
          refine ih _ _ _ (by omega) ⟨g' + 1, S5, hlt, rfl, rfl, F5, v5, e5, R5, fun g2 p2 q1 q2 => ?_⟩
          by_cases c9 : g2 = g'
          · rw [c9]; exact no5 p2 q2
          · exact no4 g2 p2 (by omega) q2
      · obtain rfl : g' = T 412 9 := by omega
        have f9 : h_iv g4 412 9 = nI (T 412 9) := z4.f9
        simp (maxSteps := 3000000) (disch := first | assumption | omega | exact hR.all _) only [m_X12_helpful_L2, bO_v, bR_v, bX_l, bX_r, bC_l, bC_r, aLet_v, nI_add, pk_mul, dvI_n, rmI_n, iMax_n, iMin_n, zO_0, zO_1, li_0, li_1, li_2, li_3, li_4, li_5, li_6, li_7, li_8, li_9, li_10, li_12, li_14, li_15, li_16, li_18, li_19, li_20, li_22, li_23, li_24, li_26, li_29, li_30, li_31, li_32, li_36, li_38, li_48, li_50, li_57, li_58, li_59, li_60, li_63, li_97, li_99, li_120, li_122, li_144, li_168, li_194, li_240, li_255, li_284, li_299, li_603, li_999, li_1200, li_1440, li_4095, li_4096, li_6030, li_16384, li_20160, zl0, zl1, zl2, zl3, zl4, ze01, ze02, ze03, ze04, ze10, ze12, ze13, ze14, ze20, ze21, ze23, ze24, ze30, ze31, ze32, ze34, ze40, ze41, ze42, ze43, zt0, zt1, zt2, zt3, zt4, zq0, zq1, zq2, zq3, zq4, it_t, it_f, Bool.true_eq_false, Bool.false_eq_true, na5, na4, na1441, na2, na10, sx_IOIA, sx_IOIS, sx_IONS, sx_IAIO, sx_IAIS, sx_IANS, sx_ISIO, sx_ISIA, sx_ISNS, sx_NSIO, sx_NSIA, sx_NSIS, r_cM_gi S4, f9, nI_ltI, hk97]
        rw [if_neg hlt]
        refine ok_ret ⟨S', F4, v4, e4, R4.big, ?_⟩
        rcases O with o | o | o
        · omega
        · exact Or.inl ⟨o.1, rfl⟩
        · have := no4 g p o.2.2.1 o.2.2.2.1
          rw [o.2.2.2.2.1] at this; cases this
    · obtain ⟨S', F9, v9, e9, b9, hc⟩ := hh
      have S9 := F9.sh S1
      have FX : ∀ q, Fx (fun o k => o = 413 ∨ SQ o k) h (h_si g9 412 0 (nI q)) := fun q => F9.trans (Fx.si (Or.inr (by unfold SQ; omega)))
      have vX : ∀ q j, h_iv (h_si g9 412 0 (nI q)) 413 j = nI (S' j) := fun q j => by rw [si_ne (by omega)]; exact v9 j
      rcases hc with ⟨rfl, rfl⟩ | ⟨rfl, rfl, g6, p12⟩
      · have m11 : (-nI 1 = -nI 1) = True := eq_self _
        simp (maxSteps := 3000000) (disch := first | assumption | omega | exact hR.all _) only [bO_v, bR_v, bX_l, bX_r, bC_l, bC_r, aLet_v, nI_add, pk_mul, dvI_n, rmI_n, iMax_n, iMin_n, zO_0, zO_1, li_0, li_1, li_2, li_3, li_4, li_5, li_6, li_7, li_8, li_9, li_10, li_12, li_14, li_15, li_16, li_18, li_19, li_20, li_22, li_23, li_24, li_26, li_29, li_30, li_31, li_32, li_36, li_38, li_48, li_50, li_57, li_58, li_59, li_60, li_63, li_97, li_99, li_120, li_122, li_144, li_168, li_194, li_240, li_255, li_284, li_299, li_603, li_999, li_1200, li_1440, li_4095, li_4096, li_6030, li_16384, li_20160, zl0, zl1, zl2, zl3, zl4, ze01, ze02, ze03, ze04, ze10, ze12, ze13, ze14, ze20, ze21, ze23, ze24, ze30, ze31, ze32, ze34, ze40, ze41, ze42, ze43, zt0, zt1, zt2, zt3, zt4, zq0, zq1, zq2, zq3, zq4, it_t, it_f, Bool.true_eq_false, Bool.false_eq_true, na5, na4, na1441, na2, na10, sx_IOIA, sx_IOIS, sx_IONS, sx_IAIO, sx_IAIS, sx_IANS, sx_ISIO, sx_ISIA, sx_ISNS, sx_NSIO, sx_NSIA, sx_NSIS, aJ_v, r_cM_pi S9, rz_gi S9, nI_leI]
        refine ok_ret ?_
        rw [← hPost]
        obtain ⟨q1, q2, q3, q4⟩ := fin S' _ (FX 3) (vX 3) e9 b9
        exact ⟨q1, q2, q3, q4, si_at, fun q => absurd q (by decide), fun _ => rfl⟩
      · have nm1 : ¬ nI (16 * g + p) = -nI 1 := fun q9 => by
          have h9 := congrArg Int32.toInt q9
          rw [nI_toInt (by omega)] at h9
          have h10 : (-nI 1).toInt = -1 := by decide
          omega
        simp (maxSteps := 3000000) (disch := first | assumption | omega | exact hR.all _) only [bO_v, bR_v, bX_l, bX_r, bC_l, bC_r, aLet_v, nI_add, pk_mul, dvI_n, rmI_n, iMax_n, iMin_n, zO_0, zO_1, li_0, li_1, li_2, li_3, li_4, li_5, li_6, li_7, li_8, li_9, li_10, li_12, li_14, li_15, li_16, li_18, li_19, li_20, li_22, li_23, li_24, li_26, li_29, li_30, li_31, li_32, li_36, li_38, li_48, li_50, li_57, li_58, li_59, li_60, li_63, li_97, li_99, li_120, li_122, li_144, li_168, li_194, li_240, li_255, li_284, li_299, li_603, li_999, li_1200, li_1440, li_4095, li_4096, li_6030, li_16384, li_20160, zl0, zl1, zl2, zl3, zl4, ze01, ze02, ze03, ze04, ze10, ze12, ze13, ze14, ze20, ze21, ze23, ze24, ze30, ze31, ze32, ze34, ze40, ze41, ze42, ze43, zt0, zt1, zt2, zt3, zt4, zq0, zq1, zq2, zq3, zq4, it_t, it_f, Bool.true_eq_false, Bool.false_eq_true, na5, na4, na1441, na2, na10, sx_IOIA, sx_IOIS, sx_IONS, sx_IAIO, sx_IAIS, sx_IANS, sx_ISIO, sx_ISIA, sx_ISNS, sx_NSIO, sx_NSIA, sx_NSIS, aJ_v, if_neg nm1, r_cM_pi S9, rz_gi S9, nI_leI]
        refine ok_ret ?_
        rw [← hPost]
        obtain ⟨q1, q2, q3, q4⟩ := fin S' _ (FX 0) (vX 0) e9 b9
        exact ⟨q1, q2, q3, q4, si_at, fun _ => rfl, fun q => absurd rfl q⟩
  · have c2 : code = 2 := by
      rcases O with o | o | o
      · exact o.1
      · rw [ca] at o; cases o.2.1
      · rw [ca] at o; cases o.2.1
    rw [aJ_v, if_neg (by decide)]
    simp (maxSteps := 3000000) (disch := first | assumption | omega | exact hR.all _) only [bO_v, bR_v, bX_l, bX_r, bC_l, bC_r, aLet_v, nI_add, pk_mul, dvI_n, rmI_n, iMax_n, iMin_n, zO_0, zO_1, li_0, li_1, li_2, li_3, li_4, li_5, li_6, li_7, li_8, li_9, li_10, li_12, li_14, li_15, li_16, li_18, li_19, li_20, li_22, li_23, li_24, li_26, li_29, li_30, li_31, li_32, li_36, li_38, li_48, li_50, li_57, li_58, li_59, li_60, li_63, li_97, li_99, li_120, li_122, li_144, li_168, li_194, li_240, li_255, li_284, li_299, li_603, li_999, li_1200, li_1440, li_4095, li_4096, li_6030, li_16384, li_20160, zl0, zl1, zl2, zl3, zl4, ze01, ze02, ze03, ze04, ze10, ze12, ze13, ze14, ze20, ze21, ze23, ze24, ze30, ze31, ze32, ze34, ze40, ze41, ze42, ze43, zt0, zt1, zt2, zt3, zt4, zq0, zq1, zq2, zq3, zq4, it_t, it_f, Bool.true_eq_false, Bool.false_eq_true, na5, na4, na1441, na2, na10, sx_IOIA, sx_IOIS, sx_IONS, sx_IAIO, sx_IAIS, sx_IANS, sx_ISIO, sx_ISIA, sx_ISNS, sx_NSIO, sx_NSIA, sx_NSIS, r_cM_pi S2, rz_gi S2, nI_leI]
    refine ok_ret ?_
    rw [← hPost]
    obtain ⟨q1, q2, q3, q4⟩ := fin (T 413) (h_si g2 412 0 (nI 2)) (F02.trans (Fx.si (Or.inr (by unfold SQ; omega)))) (fun j => by rw [si_ne (by omega)]; exact v2 j) (fun _ _ => rfl) hR.big
    exact ⟨q1, q2, q3, q4, by rw [si_at, c2], fun q => by omega, fun _ => rfl⟩
theorem help_mk {x : Option (Int32 × aH)} {y : aH → Option (Int32 × aH)} {code : Nat} {v : Int32} (I : IV h T P Q) (hk : code < 5) (hc : CQ 2 h x code v) (hr : ∀ h1, IV h1 T P Q → OK (y h1) (fun r h2 => (∃ T', IV h2 T' P Q) ∧ h_nx h2 = h_nx h1 ∧ h_sl h2 = h_sl h1 ∧ h_lv h2 = h_lv h1 ∧ h_iv h2 412 0 = nI code ∧ (code = 0 → r = v))) : QG h x y := by
  obtain ⟨r, h1, e1, q1, q2, q3⟩ := hc
  obtain ⟨b, h2, e2, ⟨T', IT⟩, q4, q5, q6, q7, q8⟩ := hr h1 (I.go q2)
  refine ⟨code, v, hk, r, h1, e1, q1, q3, b, h2, e2, q8, q7, by rw [q6], ⟨T', P, Q, IT⟩, ?_, ?_⟩
  · have := q2.2.1
    omega
  · have := q2.2.2.1
    omega
theorem q_helpfulPager (I : IV h T P Q) (k : Int32) : QG h (m_L_helpfulPager 1 k 462 h) (m_X12_helpfulPager 412 k) := by
  have hS := I.sh
  have hD := I.D
  have hR := I.R
  have hP := I.hP
  have y := I.y
  have d0 := hD.nP
  have d1 := hD.nG
  have d2 := hD.nE
  have d3 := hD.nK
  have d4 := hR.tm
  have d5 := I.RB.2.2
  have ha : 134 ∈ stL := by decide
  have x := I.x
  have p8 : kpT T 412 8 = T 412 8 := kpT_pe.1
  have p9 : kpT T 412 9 = T 412 9 := kpT_pe.2.1
  have p10 : kpT T 412 10 = T 412 10 := kpT_pe.2.2.1
  cases c : inr k (T 412 11)
  · refine qg_mk (k := 1) (v := 0) I (by decide) (cq_exc ?_ (by decide)) (fun h1 I1 => ?_)
    · simp (maxSteps := 3000000) (disch := first | assumption | omega | exact hR.all _) only [m_L_helpfulPager, m_X11_helpfulPager, m_X11_helpfulHandOn, bO_v, bR_v, bX_l, bX_r, bC_l, bC_r, aJ_v, aLet_v, nI_add, pk_mul, dvI_n, rmI_n, iMax_n, iMin_n, zO_0, zO_1, li_0, li_1, li_2, li_3, li_4, li_5, li_6, li_7, li_8, li_9, li_10, li_12, li_14, li_15, li_16, li_18, li_19, li_20, li_22, li_23, li_24, li_26, li_29, li_30, li_31, li_32, li_36, li_38, li_48, li_50, li_57, li_58, li_59, li_60, li_63, li_97, li_99, li_120, li_122, li_144, li_168, li_194, li_240, li_255, li_284, li_299, li_603, li_999, li_1200, li_1440, li_4095, li_4096, li_6030, li_16384, li_20160, zl0, zl1, zl2, zl3, zl4, ze01, ze02, ze03, ze04, ze10, ze12, ze13, ze14, ze20, ze21, ze23, ze24, ze30, ze31, ze32, ze34, ze40, ze41, ze42, ze43, zt0, zt1, zt2, zt3, zt4, zq0, zq1, zq2, zq3, zq4, it_t, it_f, Bool.true_eq_false, Bool.false_eq_true, na5, na4, na1441, na2, na10, sx_IOIA, sx_IOIS, sx_IONS, sx_IAIO, sx_IAIS, sx_IANS, sx_ISIO, sx_ISIA, sx_ISNS, sx_NSIO, sx_NSIA, sx_NSIS, c_cX_gS hS, c_cX_gi hS, c_pst hS, c_phi hS, c_cH_gS hS, c_pmu hS, s_cS_gi hS ha, s_cS_gL hS ha, s_cS_pi hS ha, s_cS_pL hS ha, s_cS_gS hS ha, s_clost_al hS ha, s_clost_as hS ha, s_clost_ln hS ha, s_cout_al hS ha, s_cout_as hS ha, s_cout_ln hS ha, s_cpaid_al hS ha, s_cpaid_as hS ha, s_cpaid_ln hS ha, s_ctrust_al hS ha, s_ctrust_as hS ha, s_ctrust_ln hS ha, s_crot_al hS ha, s_crot_as hS ha, s_crot_ln hS ha, s_chands_al hS ha, s_chands_as hS ha, s_chands_ln hS ha, s_cto_al hS ha, s_cto_as hS ha, s_cto_ln hS ha, s_cends_al hS ha, s_cends_as hS ha, s_cends_ln hS ha, s_cret_al hS ha, s_cret_as hS ha, s_cret_ln hS ha, s_ccrew_al hS ha, s_ccrew_as hS ha, s_ccrew_ln hS ha, s_cL_gi hS ha, s_cL_gL hS ha, s_cL_pi hS ha, s_cL_pL hS ha, s_cL_gS hS ha, s_clcosts_al hS ha, s_clcosts_as hS ha, s_clcosts_ln hS ha, s_clcomers_al hS ha, s_clcomers_as hS ha, s_clcomers_ln hS ha, s_clleavers_al hS ha, s_clleavers_as hS ha, s_clleavers_ln hS ha, s_clengs_al hS ha, s_clengs_as hS ha, s_clengs_ln hS ha, s_cltimes_al hS ha, s_cltimes_as hS ha, s_cltimes_ln hS ha, s_clcrews_al hS ha, s_clcrews_as hS ha, s_clcrews_ln hS ha, s_cbest_al hS ha, s_cbest_as hS ha, s_cbest_ln hS ha, s_plost hS ha, s_pout hS ha, s_ppaid hS ha, s_ptrust hS ha, s_prot hS ha, s_phands hS ha, s_pto hS ha, s_pends hS ha, s_pret hS ha, s_pcrew hS ha, s_plog hS ha, s_plcosts hS ha, s_plcomers hS ha, s_plleavers hS ha, s_plengs hS ha, s_pltimes hS ha, s_plcrews hS ha, s_pbest hS ha, p_cP_gi hS hP, p_cP_gL hS hP, p_cP_pi hS hP, p_cP_pL hS hP, p_cP_gS hS hP, p_cN_gi hS hP, p_cN_gL hS hP, p_cN_pi hS hP, p_cN_pL hS hP, p_cN_gS hS hP, p_cps_ln hS hP, p_ctr_al hS hP, p_ctr_as hS hP, p_ctr_ln hS hP, p_cgs_ln hS hP, p_ces_ln hS hP, p_cks_ln hS hP, p_cable_al hS hP, p_cable_as hS hP, p_cable_ln hS hP, p_pN hS hP, p_pps hS hP, p_ptr hS hP, p_pgs hS hP, p_pes hS hP, p_pks hS hP, p_pable hS hP, p_ep_al hS hP, p_ep_gi hS hP, p_ep_gL hS hP, p_ep_pi hS hP, p_ep_pL hS hP, p_ep_gS hS hP, p_eg_al hS hP, p_eg_gi hS hP, p_eg_gL hS hP, p_eg_pi hS hP, p_eg_pL hS hP, p_eg_gS hS hP, p_egr_p hS hP, p_egr_al hS hP, p_egr_as hS hP, p_egr_ln hS hP, p_ee_al hS hP, p_ee_gi hS hP, p_ee_gL hS hP, p_ee_pi hS hP, p_ee_pL hS hP, p_ee_gS hS hP, p_ees_p hS hP, p_ees_al hS hP, p_ees_as hS hP, p_ees_ln hS hP, p_eed_p hS hP, p_eed_al hS hP, p_eed_as hS hP, p_eed_ln hS hP, p_ek_al hS hP, p_ek_gi hS hP, p_ek_gL hS hP, p_ek_pi hS hP, p_ek_pL hS hP, p_ek_gS hS hP, p_ekg_p hS hP, p_ekg_al hS hP, p_ekg_as hS hP, p_ekg_ln hS hP, p_eke_p hS hP, p_eke_al hS hP, p_eke_as hS hP, p_eke_ln hS hP, I.g3, b2i_0, I.needPerson, I.needPager, I.needEngine, I.needKind, I.needCall, I.needTwo, c]
    · have S1 := I1.sh
      refine rq_exc (w := nI 0) ?_ (by decide)
      simp (maxSteps := 3000000) (disch := first | assumption | omega | exact hR.all _) only [m_X12_helpfulPager, m_X12_helps, bO_v, bR_v, bX_l, bX_r, bC_l, bC_r, aJ_v, aLet_v, nI_add, pk_mul, dvI_n, rmI_n, iMax_n, iMin_n, zO_0, zO_1, li_0, li_1, li_2, li_3, li_4, li_5, li_6, li_7, li_8, li_9, li_10, li_12, li_14, li_15, li_16, li_18, li_19, li_20, li_22, li_23, li_24, li_26, li_29, li_30, li_31, li_32, li_36, li_38, li_48, li_50, li_57, li_58, li_59, li_60, li_63, li_97, li_99, li_120, li_122, li_144, li_168, li_194, li_240, li_255, li_284, li_299, li_603, li_999, li_1200, li_1440, li_4095, li_4096, li_6030, li_16384, li_20160, zl0, zl1, zl2, zl3, zl4, ze01, ze02, ze03, ze04, ze10, ze12, ze13, ze14, ze20, ze21, ze23, ze24, ze30, ze31, ze32, ze34, ze40, ze41, ze42, ze43, zt0, zt1, zt2, zt3, zt4, zq0, zq1, zq2, zq3, zq4, it_t, it_f, Bool.true_eq_false, Bool.false_eq_true, na5, na4, na1441, na2, na10, sx_IOIA, sx_IOIS, sx_IONS, sx_IAIO, sx_IAIS, sx_IANS, sx_ISIO, sx_ISIA, sx_ISNS, sx_NSIO, sx_NSIA, sx_NSIS, r_cM_gS S1, r_cM_pi S1, rz_gi S1, r_p413 S1, r_c413_al S1, r_isPerson S1 I1.z hD, r_isPager S1 I1.z hD, r_isKind S1 I1.z hD, r_isCouple S1 I1.z hD, b2i_0, nI_leI, c]
      try rfl
  · obtain ⟨k, hk, rfl⟩ := inr_t c (by omega)
    obtain ⟨r, g1, e1, hr⟩ := k_help I hk
    rcases hr with ⟨ca, rfl, g0, rfl, Q0⟩ | ⟨ca, g, p, hg, hp, hh, rfl, Q0⟩ | ⟨ca, no, rfl, g0, rfl, Q0⟩
    · refine help_mk I (show 2 < 5 by decide) (v := 0) (cq_exc9 ?_ Q0 (by decide)) (fun h1 I1 => ?_)
      · simp (maxSteps := 3000000) (disch := first | assumption | omega | exact hR.all _) only [m_L_helpfulPager, m_X11_helpfulPager, bO_v, bR_v, bX_l, bX_r, bC_l, bC_r, aJ_v, aLet_v, nI_add, pk_mul, dvI_n, rmI_n, iMax_n, iMin_n, zO_0, zO_1, li_0, li_1, li_2, li_3, li_4, li_5, li_6, li_7, li_8, li_9, li_10, li_12, li_14, li_15, li_16, li_18, li_19, li_20, li_22, li_23, li_24, li_26, li_29, li_30, li_31, li_32, li_36, li_38, li_48, li_50, li_57, li_58, li_59, li_60, li_63, li_97, li_99, li_120, li_122, li_144, li_168, li_194, li_240, li_255, li_284, li_299, li_603, li_999, li_1200, li_1440, li_4095, li_4096, li_6030, li_16384, li_20160, zl0, zl1, zl2, zl3, zl4, ze01, ze02, ze03, ze04, ze10, ze12, ze13, ze14, ze20, ze21, ze23, ze24, ze30, ze31, ze32, ze34, ze40, ze41, ze42, ze43, zt0, zt1, zt2, zt3, zt4, zq0, zq1, zq2, zq3, zq4, it_t, it_f, Bool.true_eq_false, Bool.false_eq_true, na5, na4, na1441, na2, na10, sx_IOIA, sx_IOIS, sx_IONS, sx_IAIO, sx_IAIS, sx_IANS, sx_ISIO, sx_ISIA, sx_ISNS, sx_NSIO, sx_NSIA, sx_NSIS, c_cX_gS hS, e1]
      · have S1 := I1.sh
        simp (maxSteps := 3000000) (disch := first | assumption | omega | exact hR.all _) only [m_X12_helpfulPager, bO_v, bR_v, bX_l, bX_r, bC_l, bC_r, aLet_v, nI_add, pk_mul, dvI_n, rmI_n, iMax_n, iMin_n, zO_0, zO_1, li_0, li_1, li_2, li_3, li_4, li_5, li_6, li_7, li_8, li_9, li_10, li_12, li_14, li_15, li_16, li_18, li_19, li_20, li_22, li_23, li_24, li_26, li_29, li_30, li_31, li_32, li_36, li_38, li_48, li_50, li_57, li_58, li_59, li_60, li_63, li_97, li_99, li_120, li_122, li_144, li_168, li_194, li_240, li_255, li_284, li_299, li_603, li_999, li_1200, li_1440, li_4095, li_4096, li_6030, li_16384, li_20160, zl0, zl1, zl2, zl3, zl4, ze01, ze02, ze03, ze04, ze10, ze12, ze13, ze14, ze20, ze21, ze23, ze24, ze30, ze31, ze32, ze34, ze40, ze41, ze42, ze43, zt0, zt1, zt2, zt3, zt4, zq0, zq1, zq2, zq3, zq4, it_t, it_f, Bool.true_eq_false, Bool.false_eq_true, na5, na4, na1441, na2, na10, sx_IOIA, sx_IOIS, sx_IONS, sx_IAIO, sx_IAIS, sx_IANS, sx_ISIO, sx_ISIA, sx_ISNS, sx_NSIO, sx_NSIA, sx_NSIS, r_cM_gS S1]
        refine ok_bR (r_help I1 hk (code := 2) (g := 0) (p := 0) (Or.inl ⟨rfl, ca⟩)) (fun r h2 hq => ?_)
        rw [hq.2.2.2.2.2.2 (by decide)]
        simp (maxSteps := 3000000) (disch := first | assumption | omega | exact hR.all _) only [bO_v, bR_v, bX_l, bX_r, bC_l, bC_r, aJ_v, aLet_v, nI_add, pk_mul, dvI_n, rmI_n, iMax_n, iMin_n, zO_0, zO_1, li_0, li_1, li_2, li_3, li_4, li_5, li_6, li_7, li_8, li_9, li_10, li_12, li_14, li_15, li_16, li_18, li_19, li_20, li_22, li_23, li_24, li_26, li_29, li_30, li_31, li_32, li_36, li_38, li_48, li_50, li_57, li_58, li_59, li_60, li_63, li_97, li_99, li_120, li_122, li_144, li_168, li_194, li_240, li_255, li_284, li_299, li_603, li_999, li_1200, li_1440, li_4095, li_4096, li_6030, li_16384, li_20160, zl0, zl1, zl2, zl3, zl4, ze01, ze02, ze03, ze04, ze10, ze12, ze13, ze14, ze20, ze21, ze23, ze24, ze30, ze31, ze32, ze34, ze40, ze41, ze42, ze43, zt0, zt1, zt2, zt3, zt4, zq0, zq1, zq2, zq3, zq4, it_t, it_f, Bool.true_eq_false, Bool.false_eq_true, na5, na4, na1441, na2, na10, sx_IOIA, sx_IOIS, sx_IONS, sx_IAIO, sx_IAIS, sx_IANS, sx_ISIO, sx_ISIA, sx_ISNS, sx_NSIO, sx_NSIA, sx_NSIS]
        exact ok_ret ⟨hq.1, hq.2.1, hq.2.2.1, hq.2.2.2.1, hq.2.2.2.2.1, fun q => absurd q (by decide)⟩
    · have S9 := Q0.sh hS
      refine help_mk I (show 0 < 5 by decide) (v := nI g) (cq_val9 (g1 := g1) ?_ Q0) (fun h1 I1 => ?_)
      · have e9 : (g * 12 + p) / 12 = g := by omega
        simp (maxSteps := 3000000) (disch := first | assumption | omega | exact hR.all _) only [m_L_helpfulPager, m_X11_helpfulPager, bO_v, bR_v, bX_l, bX_r, bC_l, bC_r, aJ_v, aLet_v, nI_add, pk_mul, dvI_n, rmI_n, iMax_n, iMin_n, zO_0, zO_1, li_0, li_1, li_2, li_3, li_4, li_5, li_6, li_7, li_8, li_9, li_10, li_12, li_14, li_15, li_16, li_18, li_19, li_20, li_22, li_23, li_24, li_26, li_29, li_30, li_31, li_32, li_36, li_38, li_48, li_50, li_57, li_58, li_59, li_60, li_63, li_97, li_99, li_120, li_122, li_144, li_168, li_194, li_240, li_255, li_284, li_299, li_603, li_999, li_1200, li_1440, li_4095, li_4096, li_6030, li_16384, li_20160, zl0, zl1, zl2, zl3, zl4, ze01, ze02, ze03, ze04, ze10, ze12, ze13, ze14, ze20, ze21, ze23, ze24, ze30, ze31, ze32, ze34, ze40, ze41, ze42, ze43, zt0, zt1, zt2, zt3, zt4, zq0, zq1, zq2, zq3, zq4, it_t, it_f, Bool.true_eq_false, Bool.false_eq_true, na5, na4, na1441, na2, na10, sx_IOIA, sx_IOIS, sx_IONS, sx_IAIO, sx_IAIS, sx_IANS, sx_ISIO, sx_ISIA, sx_ISNS, sx_NSIO, sx_NSIA, sx_NSIS, c_cX_gS hS, e1, e9, c_co_as S9]
      · have S1 := I1.sh
        simp (maxSteps := 3000000) (disch := first | assumption | omega | exact hR.all _) only [m_X12_helpfulPager, bO_v, bR_v, bX_l, bX_r, bC_l, bC_r, aLet_v, nI_add, pk_mul, dvI_n, rmI_n, iMax_n, iMin_n, zO_0, zO_1, li_0, li_1, li_2, li_3, li_4, li_5, li_6, li_7, li_8, li_9, li_10, li_12, li_14, li_15, li_16, li_18, li_19, li_20, li_22, li_23, li_24, li_26, li_29, li_30, li_31, li_32, li_36, li_38, li_48, li_50, li_57, li_58, li_59, li_60, li_63, li_97, li_99, li_120, li_122, li_144, li_168, li_194, li_240, li_255, li_284, li_299, li_603, li_999, li_1200, li_1440, li_4095, li_4096, li_6030, li_16384, li_20160, zl0, zl1, zl2, zl3, zl4, ze01, ze02, ze03, ze04, ze10, ze12, ze13, ze14, ze20, ze21, ze23, ze24, ze30, ze31, ze32, ze34, ze40, ze41, ze42, ze43, zt0, zt1, zt2, zt3, zt4, zq0, zq1, zq2, zq3, zq4, it_t, it_f, Bool.true_eq_false, Bool.false_eq_true, na5, na4, na1441, na2, na10, sx_IOIA, sx_IOIS, sx_IONS, sx_IAIO, sx_IAIS, sx_IANS, sx_ISIO, sx_ISIA, sx_ISNS, sx_NSIO, sx_NSIA, sx_NSIS, r_cM_gS S1]
        refine ok_bR (r_help I1 hk (code := 0) (g := g) (p := p) (Or.inr (Or.inr ⟨rfl, ca, hg, hp, hh⟩))) (fun r h2 hq => ?_)
        rw [hq.2.2.2.2.2.1 rfl]
        have e9 : (16 * g + p) / 16 = g := by omega
        simp (maxSteps := 3000000) (disch := first | assumption | omega | exact hR.all _) only [bO_v, bR_v, bX_l, bX_r, bC_l, bC_r, aJ_v, aLet_v, nI_add, pk_mul, dvI_n, rmI_n, iMax_n, iMin_n, zO_0, zO_1, li_0, li_1, li_2, li_3, li_4, li_5, li_6, li_7, li_8, li_9, li_10, li_12, li_14, li_15, li_16, li_18, li_19, li_20, li_22, li_23, li_24, li_26, li_29, li_30, li_31, li_32, li_36, li_38, li_48, li_50, li_57, li_58, li_59, li_60, li_63, li_97, li_99, li_120, li_122, li_144, li_168, li_194, li_240, li_255, li_284, li_299, li_603, li_999, li_1200, li_1440, li_4095, li_4096, li_6030, li_16384, li_20160, zl0, zl1, zl2, zl3, zl4, ze01, ze02, ze03, ze04, ze10, ze12, ze13, ze14, ze20, ze21, ze23, ze24, ze30, ze31, ze32, ze34, ze40, ze41, ze42, ze43, zt0, zt1, zt2, zt3, zt4, zq0, zq1, zq2, zq3, zq4, it_t, it_f, Bool.true_eq_false, Bool.false_eq_true, na5, na4, na1441, na2, na10, sx_IOIA, sx_IOIS, sx_IONS, sx_IAIO, sx_IAIS, sx_IANS, sx_ISIO, sx_ISIA, sx_ISNS, sx_NSIO, sx_NSIA, sx_NSIS, e9]
        exact ok_ret ⟨hq.1, hq.2.1, hq.2.2.1, hq.2.2.2.1, hq.2.2.2.2.1, fun _ => rfl⟩
    · refine help_mk I (show 3 < 5 by decide) (v := 0) (cq_exc9 ?_ Q0 (by decide)) (fun h1 I1 => ?_)
      · simp (maxSteps := 3000000) (disch := first | assumption | omega | exact hR.all _) only [m_L_helpfulPager, m_X11_helpfulPager, bO_v, bR_v, bX_l, bX_r, bC_l, bC_r, aJ_v, aLet_v, nI_add, pk_mul, dvI_n, rmI_n, iMax_n, iMin_n, zO_0, zO_1, li_0, li_1, li_2, li_3, li_4, li_5, li_6, li_7, li_8, li_9, li_10, li_12, li_14, li_15, li_16, li_18, li_19, li_20, li_22, li_23, li_24, li_26, li_29, li_30, li_31, li_32, li_36, li_38, li_48, li_50, li_57, li_58, li_59, li_60, li_63, li_97, li_99, li_120, li_122, li_144, li_168, li_194, li_240, li_255, li_284, li_299, li_603, li_999, li_1200, li_1440, li_4095, li_4096, li_6030, li_16384, li_20160, zl0, zl1, zl2, zl3, zl4, ze01, ze02, ze03, ze04, ze10, ze12, ze13, ze14, ze20, ze21, ze23, ze24, ze30, ze31, ze32, ze34, ze40, ze41, ze42, ze43, zt0, zt1, zt2, zt3, zt4, zq0, zq1, zq2, zq3, zq4, it_t, it_f, Bool.true_eq_false, Bool.false_eq_true, na5, na4, na1441, na2, na10, sx_IOIA, sx_IOIS, sx_IONS, sx_IAIO, sx_IAIS, sx_IANS, sx_ISIO, sx_ISIA, sx_ISNS, sx_NSIO, sx_NSIA, sx_NSIS, c_cX_gS hS, e1]
      · have S1 := I1.sh
        simp (maxSteps := 3000000) (disch := first | assumption | omega | exact hR.all _) only [m_X12_helpfulPager, bO_v, bR_v, bX_l, bX_r, bC_l, bC_r, aLet_v, nI_add, pk_mul, dvI_n, rmI_n, iMax_n, iMin_n, zO_0, zO_1, li_0, li_1, li_2, li_3, li_4, li_5, li_6, li_7, li_8, li_9, li_10, li_12, li_14, li_15, li_16, li_18, li_19, li_20, li_22, li_23, li_24, li_26, li_29, li_30, li_31, li_32, li_36, li_38, li_48, li_50, li_57, li_58, li_59, li_60, li_63, li_97, li_99, li_120, li_122, li_144, li_168, li_194, li_240, li_255, li_284, li_299, li_603, li_999, li_1200, li_1440, li_4095, li_4096, li_6030, li_16384, li_20160, zl0, zl1, zl2, zl3, zl4, ze01, ze02, ze03, ze04, ze10, ze12, ze13, ze14, ze20, ze21, ze23, ze24, ze30, ze31, ze32, ze34, ze40, ze41, ze42, ze43, zt0, zt1, zt2, zt3, zt4, zq0, zq1, zq2, zq3, zq4, it_t, it_f, Bool.true_eq_false, Bool.false_eq_true, na5, na4, na1441, na2, na10, sx_IOIA, sx_IOIS, sx_IONS, sx_IAIO, sx_IAIS, sx_IANS, sx_ISIO, sx_ISIA, sx_ISNS, sx_NSIO, sx_NSIA, sx_NSIS, r_cM_gS S1]
        refine ok_bR (r_help I1 hk (code := 3) (g := 0) (p := 0) (Or.inr (Or.inl ⟨rfl, ca, no⟩))) (fun r h2 hq => ?_)
        rw [hq.2.2.2.2.2.2 (by decide)]
        simp (maxSteps := 3000000) (disch := first | assumption | omega | exact hR.all _) only [bO_v, bR_v, bX_l, bX_r, bC_l, bC_r, aJ_v, aLet_v, nI_add, pk_mul, dvI_n, rmI_n, iMax_n, iMin_n, zO_0, zO_1, li_0, li_1, li_2, li_3, li_4, li_5, li_6, li_7, li_8, li_9, li_10, li_12, li_14, li_15, li_16, li_18, li_19, li_20, li_22, li_23, li_24, li_26, li_29, li_30, li_31, li_32, li_36, li_38, li_48, li_50, li_57, li_58, li_59, li_60, li_63, li_97, li_99, li_120, li_122, li_144, li_168, li_194, li_240, li_255, li_284, li_299, li_603, li_999, li_1200, li_1440, li_4095, li_4096, li_6030, li_16384, li_20160, zl0, zl1, zl2, zl3, zl4, ze01, ze02, ze03, ze04, ze10, ze12, ze13, ze14, ze20, ze21, ze23, ze24, ze30, ze31, ze32, ze34, ze40, ze41, ze42, ze43, zt0, zt1, zt2, zt3, zt4, zq0, zq1, zq2, zq3, zq4, it_t, it_f, Bool.true_eq_false, Bool.false_eq_true, na5, na4, na1441, na2, na10, sx_IOIA, sx_IOIS, sx_IONS, sx_IAIO, sx_IAIS, sx_IANS, sx_ISIO, sx_ISIA, sx_ISNS, sx_NSIO, sx_NSIA, sx_NSIS]
        exact ok_ret ⟨hq.1, hq.2.1, hq.2.2.1, hq.2.2.2.1, hq.2.2.2.2.1, fun q => absurd q (by decide)⟩
theorem q_helpfulPerson (I : IV h T P Q) (k : Int32) : QG h (m_L_helpfulPerson 1 k 462 h) (m_X12_helpfulPerson 412 k) := by
  have hS := I.sh
  have hD := I.D
  have hR := I.R
  have hP := I.hP
  have y := I.y
  have d0 := hD.nP
  have d1 := hD.nG
  have d2 := hD.nE
  have d3 := hD.nK
  have d4 := hR.tm
  have d5 := I.RB.2.2
  have ha : 134 ∈ stL := by decide
  have x := I.x
  have p8 : kpT T 412 8 = T 412 8 := kpT_pe.1
  have p9 : kpT T 412 9 = T 412 9 := kpT_pe.2.1
  have p10 : kpT T 412 10 = T 412 10 := kpT_pe.2.2.1
  cases c : inr k (T 412 11)
  · refine qg_mk (k := 1) (v := 0) I (by decide) (cq_exc ?_ (by decide)) (fun h1 I1 => ?_)
    · simp (maxSteps := 3000000) (disch := first | assumption | omega | exact hR.all _) only [m_L_helpfulPerson, m_X11_helpfulPerson, m_X11_helpfulHandOn, bO_v, bR_v, bX_l, bX_r, bC_l, bC_r, aJ_v, aLet_v, nI_add, pk_mul, dvI_n, rmI_n, iMax_n, iMin_n, zO_0, zO_1, li_0, li_1, li_2, li_3, li_4, li_5, li_6, li_7, li_8, li_9, li_10, li_12, li_14, li_15, li_16, li_18, li_19, li_20, li_22, li_23, li_24, li_26, li_29, li_30, li_31, li_32, li_36, li_38, li_48, li_50, li_57, li_58, li_59, li_60, li_63, li_97, li_99, li_120, li_122, li_144, li_168, li_194, li_240, li_255, li_284, li_299, li_603, li_999, li_1200, li_1440, li_4095, li_4096, li_6030, li_16384, li_20160, zl0, zl1, zl2, zl3, zl4, ze01, ze02, ze03, ze04, ze10, ze12, ze13, ze14, ze20, ze21, ze23, ze24, ze30, ze31, ze32, ze34, ze40, ze41, ze42, ze43, zt0, zt1, zt2, zt3, zt4, zq0, zq1, zq2, zq3, zq4, it_t, it_f, Bool.true_eq_false, Bool.false_eq_true, na5, na4, na1441, na2, na10, sx_IOIA, sx_IOIS, sx_IONS, sx_IAIO, sx_IAIS, sx_IANS, sx_ISIO, sx_ISIA, sx_ISNS, sx_NSIO, sx_NSIA, sx_NSIS, c_cX_gS hS, c_cX_gi hS, c_pst hS, c_phi hS, c_cH_gS hS, c_pmu hS, s_cS_gi hS ha, s_cS_gL hS ha, s_cS_pi hS ha, s_cS_pL hS ha, s_cS_gS hS ha, s_clost_al hS ha, s_clost_as hS ha, s_clost_ln hS ha, s_cout_al hS ha, s_cout_as hS ha, s_cout_ln hS ha, s_cpaid_al hS ha, s_cpaid_as hS ha, s_cpaid_ln hS ha, s_ctrust_al hS ha, s_ctrust_as hS ha, s_ctrust_ln hS ha, s_crot_al hS ha, s_crot_as hS ha, s_crot_ln hS ha, s_chands_al hS ha, s_chands_as hS ha, s_chands_ln hS ha, s_cto_al hS ha, s_cto_as hS ha, s_cto_ln hS ha, s_cends_al hS ha, s_cends_as hS ha, s_cends_ln hS ha, s_cret_al hS ha, s_cret_as hS ha, s_cret_ln hS ha, s_ccrew_al hS ha, s_ccrew_as hS ha, s_ccrew_ln hS ha, s_cL_gi hS ha, s_cL_gL hS ha, s_cL_pi hS ha, s_cL_pL hS ha, s_cL_gS hS ha, s_clcosts_al hS ha, s_clcosts_as hS ha, s_clcosts_ln hS ha, s_clcomers_al hS ha, s_clcomers_as hS ha, s_clcomers_ln hS ha, s_clleavers_al hS ha, s_clleavers_as hS ha, s_clleavers_ln hS ha, s_clengs_al hS ha, s_clengs_as hS ha, s_clengs_ln hS ha, s_cltimes_al hS ha, s_cltimes_as hS ha, s_cltimes_ln hS ha, s_clcrews_al hS ha, s_clcrews_as hS ha, s_clcrews_ln hS ha, s_cbest_al hS ha, s_cbest_as hS ha, s_cbest_ln hS ha, s_plost hS ha, s_pout hS ha, s_ppaid hS ha, s_ptrust hS ha, s_prot hS ha, s_phands hS ha, s_pto hS ha, s_pends hS ha, s_pret hS ha, s_pcrew hS ha, s_plog hS ha, s_plcosts hS ha, s_plcomers hS ha, s_plleavers hS ha, s_plengs hS ha, s_pltimes hS ha, s_plcrews hS ha, s_pbest hS ha, p_cP_gi hS hP, p_cP_gL hS hP, p_cP_pi hS hP, p_cP_pL hS hP, p_cP_gS hS hP, p_cN_gi hS hP, p_cN_gL hS hP, p_cN_pi hS hP, p_cN_pL hS hP, p_cN_gS hS hP, p_cps_ln hS hP, p_ctr_al hS hP, p_ctr_as hS hP, p_ctr_ln hS hP, p_cgs_ln hS hP, p_ces_ln hS hP, p_cks_ln hS hP, p_cable_al hS hP, p_cable_as hS hP, p_cable_ln hS hP, p_pN hS hP, p_pps hS hP, p_ptr hS hP, p_pgs hS hP, p_pes hS hP, p_pks hS hP, p_pable hS hP, p_ep_al hS hP, p_ep_gi hS hP, p_ep_gL hS hP, p_ep_pi hS hP, p_ep_pL hS hP, p_ep_gS hS hP, p_eg_al hS hP, p_eg_gi hS hP, p_eg_gL hS hP, p_eg_pi hS hP, p_eg_pL hS hP, p_eg_gS hS hP, p_egr_p hS hP, p_egr_al hS hP, p_egr_as hS hP, p_egr_ln hS hP, p_ee_al hS hP, p_ee_gi hS hP, p_ee_gL hS hP, p_ee_pi hS hP, p_ee_pL hS hP, p_ee_gS hS hP, p_ees_p hS hP, p_ees_al hS hP, p_ees_as hS hP, p_ees_ln hS hP, p_eed_p hS hP, p_eed_al hS hP, p_eed_as hS hP, p_eed_ln hS hP, p_ek_al hS hP, p_ek_gi hS hP, p_ek_gL hS hP, p_ek_pi hS hP, p_ek_pL hS hP, p_ek_gS hS hP, p_ekg_p hS hP, p_ekg_al hS hP, p_ekg_as hS hP, p_ekg_ln hS hP, p_eke_p hS hP, p_eke_al hS hP, p_eke_as hS hP, p_eke_ln hS hP, I.g3, b2i_0, I.needPerson, I.needPager, I.needEngine, I.needKind, I.needCall, I.needTwo, c]
    · have S1 := I1.sh
      refine rq_exc (w := nI 0) ?_ (by decide)
      simp (maxSteps := 3000000) (disch := first | assumption | omega | exact hR.all _) only [m_X12_helpfulPerson, m_X12_helps, bO_v, bR_v, bX_l, bX_r, bC_l, bC_r, aJ_v, aLet_v, nI_add, pk_mul, dvI_n, rmI_n, iMax_n, iMin_n, zO_0, zO_1, li_0, li_1, li_2, li_3, li_4, li_5, li_6, li_7, li_8, li_9, li_10, li_12, li_14, li_15, li_16, li_18, li_19, li_20, li_22, li_23, li_24, li_26, li_29, li_30, li_31, li_32, li_36, li_38, li_48, li_50, li_57, li_58, li_59, li_60, li_63, li_97, li_99, li_120, li_122, li_144, li_168, li_194, li_240, li_255, li_284, li_299, li_603, li_999, li_1200, li_1440, li_4095, li_4096, li_6030, li_16384, li_20160, zl0, zl1, zl2, zl3, zl4, ze01, ze02, ze03, ze04, ze10, ze12, ze13, ze14, ze20, ze21, ze23, ze24, ze30, ze31, ze32, ze34, ze40, ze41, ze42, ze43, zt0, zt1, zt2, zt3, zt4, zq0, zq1, zq2, zq3, zq4, it_t, it_f, Bool.true_eq_false, Bool.false_eq_true, na5, na4, na1441, na2, na10, sx_IOIA, sx_IOIS, sx_IONS, sx_IAIO, sx_IAIS, sx_IANS, sx_ISIO, sx_ISIA, sx_ISNS, sx_NSIO, sx_NSIA, sx_NSIS, r_cM_gS S1, r_cM_pi S1, rz_gi S1, r_p413 S1, r_c413_al S1, r_isPerson S1 I1.z hD, r_isPager S1 I1.z hD, r_isKind S1 I1.z hD, r_isCouple S1 I1.z hD, b2i_0, nI_leI, c]
      try rfl
  · obtain ⟨k, hk, rfl⟩ := inr_t c (by omega)
    obtain ⟨r, g1, e1, hr⟩ := k_help I hk
    rcases hr with ⟨ca, rfl, g0, rfl, Q0⟩ | ⟨ca, g, p, hg, hp, hh, rfl, Q0⟩ | ⟨ca, no, rfl, g0, rfl, Q0⟩
    · refine help_mk I (show 2 < 5 by decide) (v := 0) (cq_exc9 ?_ Q0 (by decide)) (fun h1 I1 => ?_)
      · simp (maxSteps := 3000000) (disch := first | assumption | omega | exact hR.all _) only [m_L_helpfulPerson, m_X11_helpfulPerson, bO_v, bR_v, bX_l, bX_r, bC_l, bC_r, aJ_v, aLet_v, nI_add, pk_mul, dvI_n, rmI_n, iMax_n, iMin_n, zO_0, zO_1, li_0, li_1, li_2, li_3, li_4, li_5, li_6, li_7, li_8, li_9, li_10, li_12, li_14, li_15, li_16, li_18, li_19, li_20, li_22, li_23, li_24, li_26, li_29, li_30, li_31, li_32, li_36, li_38, li_48, li_50, li_57, li_58, li_59, li_60, li_63, li_97, li_99, li_120, li_122, li_144, li_168, li_194, li_240, li_255, li_284, li_299, li_603, li_999, li_1200, li_1440, li_4095, li_4096, li_6030, li_16384, li_20160, zl0, zl1, zl2, zl3, zl4, ze01, ze02, ze03, ze04, ze10, ze12, ze13, ze14, ze20, ze21, ze23, ze24, ze30, ze31, ze32, ze34, ze40, ze41, ze42, ze43, zt0, zt1, zt2, zt3, zt4, zq0, zq1, zq2, zq3, zq4, it_t, it_f, Bool.true_eq_false, Bool.false_eq_true, na5, na4, na1441, na2, na10, sx_IOIA, sx_IOIS, sx_IONS, sx_IAIO, sx_IAIS, sx_IANS, sx_ISIO, sx_ISIA, sx_ISNS, sx_NSIO, sx_NSIA, sx_NSIS, c_cX_gS hS, e1]
      · have S1 := I1.sh
        simp (maxSteps := 3000000) (disch := first | assumption | omega | exact hR.all _) only [m_X12_helpfulPerson, bO_v, bR_v, bX_l, bX_r, bC_l, bC_r, aLet_v, nI_add, pk_mul, dvI_n, rmI_n, iMax_n, iMin_n, zO_0, zO_1, li_0, li_1, li_2, li_3, li_4, li_5, li_6, li_7, li_8, li_9, li_10, li_12, li_14, li_15, li_16, li_18, li_19, li_20, li_22, li_23, li_24, li_26, li_29, li_30, li_31, li_32, li_36, li_38, li_48, li_50, li_57, li_58, li_59, li_60, li_63, li_97, li_99, li_120, li_122, li_144, li_168, li_194, li_240, li_255, li_284, li_299, li_603, li_999, li_1200, li_1440, li_4095, li_4096, li_6030, li_16384, li_20160, zl0, zl1, zl2, zl3, zl4, ze01, ze02, ze03, ze04, ze10, ze12, ze13, ze14, ze20, ze21, ze23, ze24, ze30, ze31, ze32, ze34, ze40, ze41, ze42, ze43, zt0, zt1, zt2, zt3, zt4, zq0, zq1, zq2, zq3, zq4, it_t, it_f, Bool.true_eq_false, Bool.false_eq_true, na5, na4, na1441, na2, na10, sx_IOIA, sx_IOIS, sx_IONS, sx_IAIO, sx_IAIS, sx_IANS, sx_ISIO, sx_ISIA, sx_ISNS, sx_NSIO, sx_NSIA, sx_NSIS, r_cM_gS S1]
        refine ok_bR (r_help I1 hk (code := 2) (g := 0) (p := 0) (Or.inl ⟨rfl, ca⟩)) (fun r h2 hq => ?_)
        rw [hq.2.2.2.2.2.2 (by decide)]
        simp (maxSteps := 3000000) (disch := first | assumption | omega | exact hR.all _) only [bO_v, bR_v, bX_l, bX_r, bC_l, bC_r, aJ_v, aLet_v, nI_add, pk_mul, dvI_n, rmI_n, iMax_n, iMin_n, zO_0, zO_1, li_0, li_1, li_2, li_3, li_4, li_5, li_6, li_7, li_8, li_9, li_10, li_12, li_14, li_15, li_16, li_18, li_19, li_20, li_22, li_23, li_24, li_26, li_29, li_30, li_31, li_32, li_36, li_38, li_48, li_50, li_57, li_58, li_59, li_60, li_63, li_97, li_99, li_120, li_122, li_144, li_168, li_194, li_240, li_255, li_284, li_299, li_603, li_999, li_1200, li_1440, li_4095, li_4096, li_6030, li_16384, li_20160, zl0, zl1, zl2, zl3, zl4, ze01, ze02, ze03, ze04, ze10, ze12, ze13, ze14, ze20, ze21, ze23, ze24, ze30, ze31, ze32, ze34, ze40, ze41, ze42, ze43, zt0, zt1, zt2, zt3, zt4, zq0, zq1, zq2, zq3, zq4, it_t, it_f, Bool.true_eq_false, Bool.false_eq_true, na5, na4, na1441, na2, na10, sx_IOIA, sx_IOIS, sx_IONS, sx_IAIO, sx_IAIS, sx_IANS, sx_ISIO, sx_ISIA, sx_ISNS, sx_NSIO, sx_NSIA, sx_NSIS]
        exact ok_ret ⟨hq.1, hq.2.1, hq.2.2.1, hq.2.2.2.1, hq.2.2.2.2.1, fun q => absurd q (by decide)⟩
    · have S9 := Q0.sh hS
      refine help_mk I (show 0 < 5 by decide) (v := nI p) (cq_val9 (g1 := g1) ?_ Q0) (fun h1 I1 => ?_)
      · have e9 : (g * 12 + p) % 12 = p := by omega
        simp (maxSteps := 3000000) (disch := first | assumption | omega | exact hR.all _) only [m_L_helpfulPerson, m_X11_helpfulPerson, bO_v, bR_v, bX_l, bX_r, bC_l, bC_r, aJ_v, aLet_v, nI_add, pk_mul, dvI_n, rmI_n, iMax_n, iMin_n, zO_0, zO_1, li_0, li_1, li_2, li_3, li_4, li_5, li_6, li_7, li_8, li_9, li_10, li_12, li_14, li_15, li_16, li_18, li_19, li_20, li_22, li_23, li_24, li_26, li_29, li_30, li_31, li_32, li_36, li_38, li_48, li_50, li_57, li_58, li_59, li_60, li_63, li_97, li_99, li_120, li_122, li_144, li_168, li_194, li_240, li_255, li_284, li_299, li_603, li_999, li_1200, li_1440, li_4095, li_4096, li_6030, li_16384, li_20160, zl0, zl1, zl2, zl3, zl4, ze01, ze02, ze03, ze04, ze10, ze12, ze13, ze14, ze20, ze21, ze23, ze24, ze30, ze31, ze32, ze34, ze40, ze41, ze42, ze43, zt0, zt1, zt2, zt3, zt4, zq0, zq1, zq2, zq3, zq4, it_t, it_f, Bool.true_eq_false, Bool.false_eq_true, na5, na4, na1441, na2, na10, sx_IOIA, sx_IOIS, sx_IONS, sx_IAIO, sx_IAIS, sx_IANS, sx_ISIO, sx_ISIA, sx_ISNS, sx_NSIO, sx_NSIA, sx_NSIS, c_cX_gS hS, e1, e9, c_co_as S9]
      · have S1 := I1.sh
        simp (maxSteps := 3000000) (disch := first | assumption | omega | exact hR.all _) only [m_X12_helpfulPerson, bO_v, bR_v, bX_l, bX_r, bC_l, bC_r, aLet_v, nI_add, pk_mul, dvI_n, rmI_n, iMax_n, iMin_n, zO_0, zO_1, li_0, li_1, li_2, li_3, li_4, li_5, li_6, li_7, li_8, li_9, li_10, li_12, li_14, li_15, li_16, li_18, li_19, li_20, li_22, li_23, li_24, li_26, li_29, li_30, li_31, li_32, li_36, li_38, li_48, li_50, li_57, li_58, li_59, li_60, li_63, li_97, li_99, li_120, li_122, li_144, li_168, li_194, li_240, li_255, li_284, li_299, li_603, li_999, li_1200, li_1440, li_4095, li_4096, li_6030, li_16384, li_20160, zl0, zl1, zl2, zl3, zl4, ze01, ze02, ze03, ze04, ze10, ze12, ze13, ze14, ze20, ze21, ze23, ze24, ze30, ze31, ze32, ze34, ze40, ze41, ze42, ze43, zt0, zt1, zt2, zt3, zt4, zq0, zq1, zq2, zq3, zq4, it_t, it_f, Bool.true_eq_false, Bool.false_eq_true, na5, na4, na1441, na2, na10, sx_IOIA, sx_IOIS, sx_IONS, sx_IAIO, sx_IAIS, sx_IANS, sx_ISIO, sx_ISIA, sx_ISNS, sx_NSIO, sx_NSIA, sx_NSIS, r_cM_gS S1]
        refine ok_bR (r_help I1 hk (code := 0) (g := g) (p := p) (Or.inr (Or.inr ⟨rfl, ca, hg, hp, hh⟩))) (fun r h2 hq => ?_)
        rw [hq.2.2.2.2.2.1 rfl]
        have e9 : (16 * g + p) % 16 = p := by omega
        simp (maxSteps := 3000000) (disch := first | assumption | omega | exact hR.all _) only [bO_v, bR_v, bX_l, bX_r, bC_l, bC_r, aJ_v, aLet_v, nI_add, pk_mul, dvI_n, rmI_n, iMax_n, iMin_n, zO_0, zO_1, li_0, li_1, li_2, li_3, li_4, li_5, li_6, li_7, li_8, li_9, li_10, li_12, li_14, li_15, li_16, li_18, li_19, li_20, li_22, li_23, li_24, li_26, li_29, li_30, li_31, li_32, li_36, li_38, li_48, li_50, li_57, li_58, li_59, li_60, li_63, li_97, li_99, li_120, li_122, li_144, li_168, li_194, li_240, li_255, li_284, li_299, li_603, li_999, li_1200, li_1440, li_4095, li_4096, li_6030, li_16384, li_20160, zl0, zl1, zl2, zl3, zl4, ze01, ze02, ze03, ze04, ze10, ze12, ze13, ze14, ze20, ze21, ze23, ze24, ze30, ze31, ze32, ze34, ze40, ze41, ze42, ze43, zt0, zt1, zt2, zt3, zt4, zq0, zq1, zq2, zq3, zq4, it_t, it_f, Bool.true_eq_false, Bool.false_eq_true, na5, na4, na1441, na2, na10, sx_IOIA, sx_IOIS, sx_IONS, sx_IAIO, sx_IAIS, sx_IANS, sx_ISIO, sx_ISIA, sx_ISNS, sx_NSIO, sx_NSIA, sx_NSIS, e9]
        exact ok_ret ⟨hq.1, hq.2.1, hq.2.2.1, hq.2.2.2.1, hq.2.2.2.2.1, fun _ => rfl⟩
    · refine help_mk I (show 3 < 5 by decide) (v := 0) (cq_exc9 ?_ Q0 (by decide)) (fun h1 I1 => ?_)
      · simp (maxSteps := 3000000) (disch := first | assumption | omega | exact hR.all _) only [m_L_helpfulPerson, m_X11_helpfulPerson, bO_v, bR_v, bX_l, bX_r, bC_l, bC_r, aJ_v, aLet_v, nI_add, pk_mul, dvI_n, rmI_n, iMax_n, iMin_n, zO_0, zO_1, li_0, li_1, li_2, li_3, li_4, li_5, li_6, li_7, li_8, li_9, li_10, li_12, li_14, li_15, li_16, li_18, li_19, li_20, li_22, li_23, li_24, li_26, li_29, li_30, li_31, li_32, li_36, li_38, li_48, li_50, li_57, li_58, li_59, li_60, li_63, li_97, li_99, li_120, li_122, li_144, li_168, li_194, li_240, li_255, li_284, li_299, li_603, li_999, li_1200, li_1440, li_4095, li_4096, li_6030, li_16384, li_20160, zl0, zl1, zl2, zl3, zl4, ze01, ze02, ze03, ze04, ze10, ze12, ze13, ze14, ze20, ze21, ze23, ze24, ze30, ze31, ze32, ze34, ze40, ze41, ze42, ze43, zt0, zt1, zt2, zt3, zt4, zq0, zq1, zq2, zq3, zq4, it_t, it_f, Bool.true_eq_false, Bool.false_eq_true, na5, na4, na1441, na2, na10, sx_IOIA, sx_IOIS, sx_IONS, sx_IAIO, sx_IAIS, sx_IANS, sx_ISIO, sx_ISIA, sx_ISNS, sx_NSIO, sx_NSIA, sx_NSIS, c_cX_gS hS, e1]
      · have S1 := I1.sh
        simp (maxSteps := 3000000) (disch := first | assumption | omega | exact hR.all _) only [m_X12_helpfulPerson, bO_v, bR_v, bX_l, bX_r, bC_l, bC_r, aLet_v, nI_add, pk_mul, dvI_n, rmI_n, iMax_n, iMin_n, zO_0, zO_1, li_0, li_1, li_2, li_3, li_4, li_5, li_6, li_7, li_8, li_9, li_10, li_12, li_14, li_15, li_16, li_18, li_19, li_20, li_22, li_23, li_24, li_26, li_29, li_30, li_31, li_32, li_36, li_38, li_48, li_50, li_57, li_58, li_59, li_60, li_63, li_97, li_99, li_120, li_122, li_144, li_168, li_194, li_240, li_255, li_284, li_299, li_603, li_999, li_1200, li_1440, li_4095, li_4096, li_6030, li_16384, li_20160, zl0, zl1, zl2, zl3, zl4, ze01, ze02, ze03, ze04, ze10, ze12, ze13, ze14, ze20, ze21, ze23, ze24, ze30, ze31, ze32, ze34, ze40, ze41, ze42, ze43, zt0, zt1, zt2, zt3, zt4, zq0, zq1, zq2, zq3, zq4, it_t, it_f, Bool.true_eq_false, Bool.false_eq_true, na5, na4, na1441, na2, na10, sx_IOIA, sx_IOIS, sx_IONS, sx_IAIO, sx_IAIS, sx_IANS, sx_ISIO, sx_ISIA, sx_ISNS, sx_NSIO, sx_NSIA, sx_NSIS, r_cM_gS S1]
        refine ok_bR (r_help I1 hk (code := 3) (g := 0) (p := 0) (Or.inr (Or.inl ⟨rfl, ca, no⟩))) (fun r h2 hq => ?_)
        rw [hq.2.2.2.2.2.2 (by decide)]
        simp (maxSteps := 3000000) (disch := first | assumption | omega | exact hR.all _) only [bO_v, bR_v, bX_l, bX_r, bC_l, bC_r, aJ_v, aLet_v, nI_add, pk_mul, dvI_n, rmI_n, iMax_n, iMin_n, zO_0, zO_1, li_0, li_1, li_2, li_3, li_4, li_5, li_6, li_7, li_8, li_9, li_10, li_12, li_14, li_15, li_16, li_18, li_19, li_20, li_22, li_23, li_24, li_26, li_29, li_30, li_31, li_32, li_36, li_38, li_48, li_50, li_57, li_58, li_59, li_60, li_63, li_97, li_99, li_120, li_122, li_144, li_168, li_194, li_240, li_255, li_284, li_299, li_603, li_999, li_1200, li_1440, li_4095, li_4096, li_6030, li_16384, li_20160, zl0, zl1, zl2, zl3, zl4, ze01, ze02, ze03, ze04, ze10, ze12, ze13, ze14, ze20, ze21, ze23, ze24, ze30, ze31, ze32, ze34, ze40, ze41, ze42, ze43, zt0, zt1, zt2, zt3, zt4, zq0, zq1, zq2, zq3, zq4, it_t, it_f, Bool.true_eq_false, Bool.false_eq_true, na5, na4, na1441, na2, na10, sx_IOIA, sx_IOIS, sx_IONS, sx_IAIO, sx_IAIS, sx_IANS, sx_ISIO, sx_ISIA, sx_ISNS, sx_NSIO, sx_NSIA, sx_NSIS]
        exact ok_ret ⟨hq.1, hq.2.1, hq.2.2.1, hq.2.2.2.1, hq.2.2.2.2.1, fun q => absurd q (by decide)⟩
end
