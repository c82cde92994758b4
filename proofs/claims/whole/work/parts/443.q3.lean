/-! rows that agree where it matters; lost sleep and rest, minute by minute -/
/-- places of a row that nothing reads -/
def garb (S : Nat → Nat) (j : Nat) : Prop := 603 ≤ j ∨ ∃ g k, g < 6 ∧ S (194 + 15 * g + 8) ≤ k ∧ k < 3 ∧ (j = 194 + 15 * g + 9 + k ∨ j = 194 + 15 * g + 12 + k)
theorem ng {S : Nat → Nat} {j : Nat} (h1 : j < 603) (h2 : j < 194 ∨ 284 ≤ j ∨ (j - 194) % 15 < 9) : ¬ garb S j := by
  rintro (h | ⟨g, k, q1, q2, q3, q4⟩) <;> omega
theorem ngt {S : Nat → Nat} {g k : Nat} (hg : g < 6) (h1 : k < 3) (h2 : k < S (194 + 15 * g + 8)) : ¬ garb S (194 + 15 * g + 9 + k) := by
  rintro (h | ⟨g', k', q1, q2, q3, q4⟩)
  · omega
  · obtain rfl : g' = g := by omega
    omega
theorem nge {S : Nat → Nat} {g k : Nat} (hg : g < 6) (h1 : k < 3) (h2 : k < S (194 + 15 * g + 8)) : ¬ garb S (194 + 15 * g + 12 + k) := by
  rintro (h | ⟨g', k', q1, q2, q3, q4⟩)
  · omega
  · obtain rfl : g' = g := by omega
    omega
theorem RwD.ext {T : Nat → Nat → Nat} {S S' : Nat → Nat} (hD : PlD T) (hR : RwD T S) (e : ∀ j, ¬ garb S j → S' j = S j) (hb : ∀ j, S' j < 2147483600) : RwD T S' := by
  have d0 := hD.nP
  have d1 := hD.nG
  have d2 := hD.nE
  have r1 := hR.many
  have hn : ∀ g, g < T 412 9 → S' (194 + 15 * g + 8) = S (194 + 15 * g + 8) := fun g hg => e _ (ng (by omega) (by omega))
  have e0 : S' 0 = S 0 := e _ (ng (by omega) (by omega))
  have e1 : S' 1 = S 1 := e _ (ng (by omega) (by omega))
  refine ⟨?_, ?_, ?_, ?_, ?_, ?_, ?_, ?_, ?_, ?_, ?_, ?_, ?_, ?_, ?_, ?_, ?_, ?_, hb⟩
  · rw [e0]; exact hR.tm
  · rw [e1]; exact hR.many
  · intro p hp; rw [e0, e _ (ng (by omega) (by omega))]; exact hR.lost p hp
  · intro p hp; rw [e _ (ng (by omega) (by omega))]; exact hR.out p hp
  · intro p hp; rw [e _ (ng (by omega) (by omega))]; exact hR.exc p hp
  · intro p hp q hq; rw [e _ (ng (by omega) (by omega))]; exact hR.tr p hp q hq
  · intro g hg q hq
    have := hD.plc g hg
    rw [e _ (ng (by omega) (by omega))]; exact hR.rot g hg q hq
  · intro g hg; rw [hn g hg]; exact hR.hn g hg
  · intro g hg k hk
    have := hR.hn g hg
    rw [hn g hg] at hk
    rw [e _ (ngt (by omega) (by omega) hk)]; exact hR.to g hg k hk
  · intro g hg k hk
    have := hR.hn g hg
    rw [hn g hg] at hk
    rw [e0, e _ (nge (by omega) (by omega) hk)]; exact hR.en g hg k hk
  · intro g hg j k hj hk
    have := hR.hn g hg
    rw [hn g hg] at hk
    rw [e _ (nge (by omega) (by omega) hk), e _ (nge (by omega) (by omega) (show j < S (194 + 15 * g + 8) by omega))]; exact hR.ed g hg j k hj hk
  · intro g hg; rw [e _ (ng (by omega) (by omega))]; exact hR.ret g hg
  · intro g hg; rw [e _ (ng (by omega) (by omega))]; exact hR.rest g hg
  · intro g hg; rw [e _ (ng (by omega) (by omega))]; exact hR.crew g hg
  · intro g hg; rw [e0, e (284 + 3 * g + 2) (ng (by omega) (by omega)), e (284 + 3 * g) (ng (by omega) (by omega))]; exact hR.crout g hg
  · intro c hc; rw [e1] at hc; rw [e _ (ng (by omega) (by omega))]; exact hR.ans c hc
  · intro c hc; rw [e1] at hc; rw [e _ (ng (by omega) (by omega))]; exact hR.left c hc
  · intro c hc i hi
    rw [e1] at hc
    have := hR.left c hc
    rw [e _ (ng (by omega) (by omega))] at hi
    rw [e _ (ng (by omega) (by omega))]; exact hR.lcr c hc i hi
theorem StR.ext {h : aH} {a P : Nat} {T : Nat → Nat → Nat} {S S' : Nat → Nat} (hD : PlD T) (hR : RwD T S) (x : StR h a P T S) (e : ∀ j, ¬ garb S j → S' j = S j) : StR h a P T S' := by
  have d0 := hD.nP
  have d1 := hD.nG
  have d2 := hD.nE
  have r1 := hR.many
  have hn : ∀ g, g < T 412 9 → S' (194 + 15 * g + 8) = S (194 + 15 * g + 8) := fun g hg => e _ (ng (by omega) (by omega))
  have e0 : S' 0 = S 0 := e _ (ng (by omega) (by omega))
  have e1 : S' 1 = S 1 := e _ (ng (by omega) (by omega))
  refine ⟨x.pl, ?_, ?_, ?_, ?_, ?_, ?_, ?_, ?_, ?_, ?_, ?_, ?_, ?_, ?_, ?_, ?_, ?_, ?_, ?_, ?_, ?_⟩
  · rw [e0]; exact x.tm
  · intro p hp; rw [e _ (ng (by omega) (by omega))]; exact x.lost p hp
  · intro p hp; rw [e _ (ng (by omega) (by omega))]; exact x.out p hp
  · intro p hp; rw [e _ (ng (by omega) (by omega))]; exact x.paid p hp
  · obtain ⟨X, x1, x2, x3, x4⟩ := x.exc
    exact ⟨X, x1, x2, fun p hp => by rw [e _ (ng (by omega) (by omega))]; exact x3 p hp, x4⟩
  · intro p hp q hq; rw [e _ (ng (by omega) (by omega))]; exact x.tr p hp q hq
  · intro g hg q hq
    have := hD.plc g hg
    rw [e _ (ng (by omega) (by omega))]; exact x.rot g hg q hq
  · intro g hg; rw [hn g hg]; exact x.hn g hg
  · intro g hg k hk
    have := hR.hn g hg
    rw [hn g hg] at hk
    rw [e _ (ngt (by omega) (by omega) hk)]; exact x.to g hg k hk
  · intro g hg k hk
    have := hR.hn g hg
    rw [hn g hg] at hk
    rw [e _ (nge (by omega) (by omega) hk)]; exact x.en g hg k hk
  · intro g hg; rw [e _ (ng (by omega) (by omega))]; exact x.ret g hg
  · intro g hg hq
    rw [e0, e _ (ng (by omega) (by omega))] at hq
    rw [e _ (ng (by omega) (by omega))]; exact x.crew g hg hq
  · obtain ⟨X, x1, x2, x3, x4⟩ := x.srv
    exact ⟨X, x1, x2, fun p hp => by rw [e _ (ng (by omega) (by omega))]; exact x3 p hp, x4⟩
  · rw [e1]; exact x.many
  · intro c hc; rw [e1] at hc; rw [e _ (ng (by omega) (by omega))]; exact x.cost c hc
  · obtain ⟨X, x1, x2, x3⟩ := x.ans
    exact ⟨X, x1, x2, fun c hc => by rw [e1] at hc; rw [e _ (ng (by omega) (by omega))]; exact x3 c hc⟩
  · intro c hc; rw [e1] at hc; rw [e _ (ng (by omega) (by omega))]; exact x.came c hc
  · intro c hc; rw [e1] at hc; rw [e _ (ng (by omega) (by omega))]; exact x.left c hc
  · intro c hc i hi
    rw [e1] at hc
    have := hR.left c hc
    rw [e _ (ng (by omega) (by omega))] at hi
    rw [e _ (ng (by omega) (by omega))]; exact x.leng c hc i hi
  · intro c hc i hi
    rw [e1] at hc
    have := hR.left c hc
    rw [e _ (ng (by omega) (by omega))] at hi
    rw [e _ (ng (by omega) (by omega))]; exact x.ltim c hc i hi
  · intro c hc i hi
    rw [e1] at hc
    have := hR.left c hc
    rw [e _ (ng (by omega) (by omega))] at hi
    rw [e _ (ng (by omega) (by omega))]; exact x.lcrw c hc i hi
theorem RwB.ext {T : Nat → Nat → Nat} {S S' : Nat → Nat} (hD : PlD T) (hR : RwB T S) (e : ∀ j, ¬ garb S j → S' j = S j) (hb : ∀ j, S' j < 2147483600) : RwB T S' := by
  have d0 := hD.nP
  refine ⟨hR.1.ext hD e hb, fun p hp => ?_, ?_⟩
  · rw [e _ (ng (by omega) (by omega)), e 1 (ng (by omega) (by omega))]; exact hR.2.1 p hp
  · rw [e _ (ng (by omega) (by omega))]; exact hR.2.2
theorem rw4_i {T : Nat → Nat → Nat} {o i j : Nat} (h : j < 603) : rw4 T o i j = T o (603 * i + j) := if_pos h
section
variable {h : aH} {T : Nat → Nat → Nat} {P Q : Nat}
theorem r_laysL (hS : Sh h) {k27 : aH → Option (Unit × aH)} {R : Option (Unit × aH) → Prop} (hk : ∀ h1, Fr (fun o => o = 416) h h1 → (∀ k, h_iv h1 416 k = if k < 603 then h_iv h 413 k else h_iv h 416 k) → R (k27 h1)) : R (aL1 (m_X12_lays_L2 412 k27) FU (nI 0) h) := by
  refine aL1_run (fun m s1 h1 => ∃ i, i ≤ 603 ∧ m = 603 - i ∧ s1 = nI i ∧ Fr (fun o => o = 416) h h1 ∧ ∀ k, h_iv h1 416 k = if k < i then h_iv h 413 k else h_iv h 416 k) ⟨0, Nat.zero_le _, rfl, rfl, Fr.rf, fun k => by rw [if_neg (Nat.not_lt_zero k)]⟩ (by omega) ?_
  rintro rec m s1 h1 ⟨i, hi, rfl, rfl, hF, hv⟩ ih
  have S1 := hF.sh hS
  by_cases hlt : i < 603
  · have e : h_iv h1 413 = h_iv h 413 := hF.iv (by decide)
    simp (maxSteps := 3000000) (disch := first | assumption | omega) only [m_X12_lays_L2, bO_v, bR_v, bX_l, bX_r, bC_l, bC_r, aJ_v, aLet_v, nI_add, pk_mul, dvI_n, rmI_n, iMax_n, iMin_n, zO_0, zO_1, li_0, li_1, li_2, li_3, li_4, li_5, li_6, li_7, li_8, li_9, li_10, li_12, li_14, li_15, li_16, li_18, li_19, li_20, li_22, li_23, li_24, li_26, li_29, li_30, li_31, li_32, li_36, li_38, li_48, li_50, li_57, li_58, li_59, li_60, li_63, li_97, li_99, li_120, li_122, li_144, li_168, li_194, li_240, li_255, li_284, li_299, li_603, li_999, li_1200, li_1440, li_4095, li_4096, li_6030, li_16384, li_20160, zl0, zl1, zl2, zl3, zl4, ze01, ze02, ze03, ze04, ze10, ze12, ze13, ze14, ze20, ze21, ze23, ze24, ze30, ze31, ze32, ze34, ze40, ze41, ze42, ze43, zt0, zt1, zt2, zt3, zt4, zq0, zq1, zq2, zq3, zq4, it_t, it_f, Bool.true_eq_false, Bool.false_eq_true, na5, na4, na1441, na2, na10, sx_IOIA, sx_IOIS, sx_IONS, sx_IAIO, sx_IAIS, sx_IANS, sx_ISIO, sx_ISIA, sx_ISNS, sx_NSIO, sx_NSIA, sx_NSIS, r_p416 S1, r_p413 S1, r_c413_al S1, r_c416_as S1, nI_ltI]
    rw [if_pos hlt]
    refine ih _ _ _ (by omega) ⟨i + 1, hlt, rfl, rfl, hF.trans (Fr.si rfl), fun k => ?_⟩
    by_cases c : k = i
    · rw [c, si_at, if_pos (by omega), e]
    · rw [si_ne (by omega), hv k]
      by_cases c2 : k < i
      · rw [if_pos c2, if_pos (by omega)]
      · rw [if_neg c2, if_neg (by omega)]
  · obtain rfl : i = 603 := by omega
    simp (maxSteps := 3000000) (disch := first | assumption | omega) only [m_X12_lays_L2, bO_v, bR_v, bX_l, bX_r, bC_l, bC_r, aJ_v, aLet_v, nI_add, pk_mul, dvI_n, rmI_n, iMax_n, iMin_n, zO_0, zO_1, li_0, li_1, li_2, li_3, li_4, li_5, li_6, li_7, li_8, li_9, li_10, li_12, li_14, li_15, li_16, li_18, li_19, li_20, li_22, li_23, li_24, li_26, li_29, li_30, li_31, li_32, li_36, li_38, li_48, li_50, li_57, li_58, li_59, li_60, li_63, li_97, li_99, li_120, li_122, li_144, li_168, li_194, li_240, li_255, li_284, li_299, li_603, li_999, li_1200, li_1440, li_4095, li_4096, li_6030, li_16384, li_20160, zl0, zl1, zl2, zl3, zl4, ze01, ze02, ze03, ze04, ze10, ze12, ze13, ze14, ze20, ze21, ze23, ze24, ze30, ze31, ze32, ze34, ze40, ze41, ze42, ze43, zt0, zt1, zt2, zt3, zt4, zq0, zq1, zq2, zq3, zq4, it_t, it_f, Bool.true_eq_false, Bool.false_eq_true, na5, na4, na1441, na2, na10, sx_IOIA, sx_IOIS, sx_IONS, sx_IAIO, sx_IAIS, sx_IANS, sx_ISIO, sx_ISIA, sx_ISNS, sx_NSIO, sx_NSIA, sx_NSIS, nI_ltI]
    rw [if_neg hlt]
    exact hk h1 hF hv
theorem r_lays (hS : Sh h) : OK (m_X12_lays 412 h) (fun _ h1 => Fr (fun o => o = 416) h h1 ∧ ∀ k, k < 603 → h_iv h1 416 k = h_iv h 413 k) := by
  simp (maxSteps := 3000000) (disch := first | assumption | omega) only [m_X12_lays, bO_v, bR_v, bX_l, bX_r, bC_l, bC_r, aLet_v, nI_add, pk_mul, dvI_n, rmI_n, iMax_n, iMin_n, zO_0, zO_1, li_0, li_1, li_2, li_3, li_4, li_5, li_6, li_7, li_8, li_9, li_10, li_12, li_14, li_15, li_16, li_18, li_19, li_20, li_22, li_23, li_24, li_26, li_29, li_30, li_31, li_32, li_36, li_38, li_48, li_50, li_57, li_58, li_59, li_60, li_63, li_97, li_99, li_120, li_122, li_144, li_168, li_194, li_240, li_255, li_284, li_299, li_603, li_999, li_1200, li_1440, li_4095, li_4096, li_6030, li_16384, li_20160, zl0, zl1, zl2, zl3, zl4, ze01, ze02, ze03, ze04, ze10, ze12, ze13, ze14, ze20, ze21, ze23, ze24, ze30, ze31, ze32, ze34, ze40, ze41, ze42, ze43, zt0, zt1, zt2, zt3, zt4, zq0, zq1, zq2, zq3, zq4, it_t, it_f, Bool.true_eq_false, Bool.false_eq_true, na5, na4, na1441, na2, na10, sx_IOIA, sx_IOIS, sx_IONS, sx_IAIO, sx_IAIS, sx_IANS, sx_ISIO, sx_ISIA, sx_ISNS, sx_NSIO, sx_NSIA, sx_NSIS, aJ_v]
  exact r_laysL (R := fun o => OK o _) hS (fun h1 F v => ok_ret ⟨F, fun k hk => by rw [v k, if_pos hk]⟩)
theorem r_takesL (hS : Sh h) {k27 : aH → Option (Unit × aH)} {R : Option (Unit × aH) → Prop} (hk : ∀ h1, Fr (fun o => o = 413) h h1 → (∀ k, h_iv h1 413 k = if k < 603 then h_iv h 416 k else h_iv h 413 k) → R (k27 h1)) : R (aL1 (m_X12_takes_L2 412 k27) FU (nI 0) h) := by
  refine aL1_run (fun m s1 h1 => ∃ i, i ≤ 603 ∧ m = 603 - i ∧ s1 = nI i ∧ Fr (fun o => o = 413) h h1 ∧ ∀ k, h_iv h1 413 k = if k < i then h_iv h 416 k else h_iv h 413 k) ⟨0, Nat.zero_le _, rfl, rfl, Fr.rf, fun k => by rw [if_neg (Nat.not_lt_zero k)]⟩ (by omega) ?_
  rintro rec m s1 h1 ⟨i, hi, rfl, rfl, hF, hv⟩ ih
  have S1 := hF.sh hS
  by_cases hlt : i < 603
  · have e : h_iv h1 416 = h_iv h 416 := hF.iv (by decide)
    simp (maxSteps := 3000000) (disch := first | assumption | omega) only [m_X12_takes_L2, bO_v, bR_v, bX_l, bX_r, bC_l, bC_r, aJ_v, aLet_v, nI_add, pk_mul, dvI_n, rmI_n, iMax_n, iMin_n, zO_0, zO_1, li_0, li_1, li_2, li_3, li_4, li_5, li_6, li_7, li_8, li_9, li_10, li_12, li_14, li_15, li_16, li_18, li_19, li_20, li_22, li_23, li_24, li_26, li_29, li_30, li_31, li_32, li_36, li_38, li_48, li_50, li_57, li_58, li_59, li_60, li_63, li_97, li_99, li_120, li_122, li_144, li_168, li_194, li_240, li_255, li_284, li_299, li_603, li_999, li_1200, li_1440, li_4095, li_4096, li_6030, li_16384, li_20160, zl0, zl1, zl2, zl3, zl4, ze01, ze02, ze03, ze04, ze10, ze12, ze13, ze14, ze20, ze21, ze23, ze24, ze30, ze31, ze32, ze34, ze40, ze41, ze42, ze43, zt0, zt1, zt2, zt3, zt4, zq0, zq1, zq2, zq3, zq4, it_t, it_f, Bool.true_eq_false, Bool.false_eq_true, na5, na4, na1441, na2, na10, sx_IOIA, sx_IOIS, sx_IONS, sx_IAIO, sx_IAIS, sx_IANS, sx_ISIO, sx_ISIA, sx_ISNS, sx_NSIO, sx_NSIA, sx_NSIS, r_p416 S1, r_p413 S1, r_c416_al S1, r_c413_as S1, nI_ltI]
    rw [if_pos hlt]
    refine ih _ _ _ (by omega) ⟨i + 1, hlt, rfl, rfl, hF.trans (Fr.si rfl), fun k => ?_⟩
    by_cases c : k = i
    · rw [c, si_at, if_pos (by omega), e]
    · rw [si_ne (by omega), hv k]
      by_cases c2 : k < i
      · rw [if_pos c2, if_pos (by omega)]
      · rw [if_neg c2, if_neg (by omega)]
  · obtain rfl : i = 603 := by omega
    simp (maxSteps := 3000000) (disch := first | assumption | omega) only [m_X12_takes_L2, bO_v, bR_v, bX_l, bX_r, bC_l, bC_r, aJ_v, aLet_v, nI_add, pk_mul, dvI_n, rmI_n, iMax_n, iMin_n, zO_0, zO_1, li_0, li_1, li_2, li_3, li_4, li_5, li_6, li_7, li_8, li_9, li_10, li_12, li_14, li_15, li_16, li_18, li_19, li_20, li_22, li_23, li_24, li_26, li_29, li_30, li_31, li_32, li_36, li_38, li_48, li_50, li_57, li_58, li_59, li_60, li_63, li_97, li_99, li_120, li_122, li_144, li_168, li_194, li_240, li_255, li_284, li_299, li_603, li_999, li_1200, li_1440, li_4095, li_4096, li_6030, li_16384, li_20160, zl0, zl1, zl2, zl3, zl4, ze01, ze02, ze03, ze04, ze10, ze12, ze13, ze14, ze20, ze21, ze23, ze24, ze30, ze31, ze32, ze34, ze40, ze41, ze42, ze43, zt0, zt1, zt2, zt3, zt4, zq0, zq1, zq2, zq3, zq4, it_t, it_f, Bool.true_eq_false, Bool.false_eq_true, na5, na4, na1441, na2, na10, sx_IOIA, sx_IOIS, sx_IONS, sx_IAIO, sx_IAIS, sx_IANS, sx_ISIO, sx_ISIA, sx_ISNS, sx_NSIO, sx_NSIA, sx_NSIS, nI_ltI]
    rw [if_neg hlt]
    exact hk h1 hF hv
theorem r_takes (hS : Sh h) : OK (m_X12_takes 412 h) (fun _ h1 => Fr (fun o => o = 413) h h1 ∧ ∀ k, h_iv h1 413 k = if k < 603 then h_iv h 416 k else h_iv h 413 k) := by
  simp (maxSteps := 3000000) (disch := first | assumption | omega) only [m_X12_takes, bO_v, bR_v, bX_l, bX_r, bC_l, bC_r, aLet_v, nI_add, pk_mul, dvI_n, rmI_n, iMax_n, iMin_n, zO_0, zO_1, li_0, li_1, li_2, li_3, li_4, li_5, li_6, li_7, li_8, li_9, li_10, li_12, li_14, li_15, li_16, li_18, li_19, li_20, li_22, li_23, li_24, li_26, li_29, li_30, li_31, li_32, li_36, li_38, li_48, li_50, li_57, li_58, li_59, li_60, li_63, li_97, li_99, li_120, li_122, li_144, li_168, li_194, li_240, li_255, li_284, li_299, li_603, li_999, li_1200, li_1440, li_4095, li_4096, li_6030, li_16384, li_20160, zl0, zl1, zl2, zl3, zl4, ze01, ze02, ze03, ze04, ze10, ze12, ze13, ze14, ze20, ze21, ze23, ze24, ze30, ze31, ze32, ze34, ze40, ze41, ze42, ze43, zt0, zt1, zt2, zt3, zt4, zq0, zq1, zq2, zq3, zq4, it_t, it_f, Bool.true_eq_false, Bool.false_eq_true, na5, na4, na1441, na2, na10, sx_IOIA, sx_IOIS, sx_IONS, sx_IAIO, sx_IAIS, sx_IANS, sx_ISIO, sx_ISIA, sx_ISNS, sx_NSIO, sx_NSIA, sx_NSIS, aJ_v]
  exact r_takesL (R := fun o => OK o _) hS (fun h1 F v => ok_ret ⟨F, v⟩)
theorem RW.trans {h h1 h2 : aH} {r r2 : Nat → Nat} (x : RW h h1 r) (y : RW h1 h2 r2) : RW h h2 r2 := ⟨x.1.trans y.1, y.2⟩
/-- one more minute of the row -/
theorem r_minI (hS : Sh h) (z : RefR h T) (hD : PlD T) {S : Nat → Nat} (hR : RwD T S) {k : Nat} (hk : S 0 + k < 40000) {h1 : aH} (x : RW h h1 (itS T S k)) : OK (m_X12_minute 412 h1) (fun r h2 => r = nI (fb_ct (rtn (itS T S k)) (T 412 10)) ∧ RW h h2 (itS T S (k + 1))) := by
  have hRk := it_R hD hR k hk
  have z1 := x.ref z hRk.all
  refine ok_mono (r_minute (T := setW T (itS T S k)) (S := itS T S k) (x.1.sh hS) z1 hD x.2 hRk) (fun r h2 q => ?_)
  exact ⟨q.1, x.trans q.2.2⟩
/-- the row was laid aside, went on, and was taken back -/
theorem back_iv {h0 h1 h2 h3 : aH} {S : Nat → Nat} {k : Nat} (hD : PlD T) (F1 : Fr (fun o => o = 416) h0 h1) (v1 : ∀ j, j < 603 → h_iv h1 416 j = h_iv h0 413 j) (hw : ∀ j, h_iv h0 413 j = nI (S j)) (x : RW h1 h2 (itS T S k)) (F3 : Fr (fun o => o = 413) h2 h3) (v3 : ∀ j, h_iv h3 413 j = if j < 603 then h_iv h2 416 j else h_iv h2 413 j) : Fr (fun o => o = 416) h0 h3 := by
  have f : Fr (fun o => o = 416 ∨ o = 413) h0 h3 := (F1.mono (fun o q => Or.inl q)).trans ((x.1.mono (fun o q => Or.inr q)).trans (F3.mono (fun o q => Or.inr q)))
  obtain ⟨f1, f2, f3, f4, f5, f6, f7⟩ := f
  refine ⟨f1, f2, f3, f4, f5, f6, fun o ho => ?_⟩
  by_cases e : o = 413
  · subst e
    funext j
    rw [v3 j]
    by_cases c : j < 603
    · rw [if_pos c, x.1.iv (by decide), v1 j c]
    · rw [if_neg c, x.2 j, it_st hD (by omega), hw j]
  · exact f7 o (fun q => q.elim ho e)
theorem q_lostSleepAfter (I : IV h T P Q) (p n : Int32) : QQ h T P Q (m_L_lostSleepAfter 1 p n 462 h) (m_X12_lostSleepAfter 412 p n) := by
  have hS := I.sh
  have hD := I.D
  have hR := I.R
  have hP := I.hP
  have y := I.y
  have d0 := hD.nP
  have d1 := hD.nG
  have d2 := hD.nE
  have d3 := hD.nK
  have d4 := hR.tm
  obtain ⟨a, ha, g5, x, -⟩ := I.st
  have tm2 := I.RB.2.2
  cases c : inr p (T 412 8)
  · refine ⟨1, 0, by decide, cq_exc ?_ (by decide), fun h1 I1 => ?_⟩
    · simp (maxSteps := 3000000) (disch := first | assumption | omega | exact hR.all _) only [m_L_lostSleepAfter, m_X11_lostSleepAfter, bO_v, bR_v, bX_l, bX_r, bC_l, bC_r, aJ_v, aLet_v, nI_add, pk_mul, dvI_n, rmI_n, iMax_n, iMin_n, zO_0, zO_1, li_0, li_1, li_2, li_3, li_4, li_5, li_6, li_7, li_8, li_9, li_10, li_12, li_14, li_15, li_16, li_18, li_19, li_20, li_22, li_23, li_24, li_26, li_29, li_30, li_31, li_32, li_36, li_38, li_48, li_50, li_57, li_58, li_59, li_60, li_63, li_97, li_99, li_120, li_122, li_144, li_168, li_194, li_240, li_255, li_284, li_299, li_603, li_999, li_1200, li_1440, li_4095, li_4096, li_6030, li_16384, li_20160, zl0, zl1, zl2, zl3, zl4, ze01, ze02, ze03, ze04, ze10, ze12, ze13, ze14, ze20, ze21, ze23, ze24, ze30, ze31, ze32, ze34, ze40, ze41, ze42, ze43, zt0, zt1, zt2, zt3, zt4, zq0, zq1, zq2, zq3, zq4, it_t, it_f, Bool.true_eq_false, Bool.false_eq_true, na5, na4, na1441, na2, na10, sx_IOIA, sx_IOIS, sx_IONS, sx_IAIO, sx_IAIS, sx_IANS, sx_ISIO, sx_ISIA, sx_ISNS, sx_NSIO, sx_NSIA, sx_NSIS, c_cX_gS hS, c_cX_gi hS, c_pmu hS, c_co_as hS, s_cS_gi hS ha, s_cS_gL hS ha, s_cS_pi hS ha, s_cS_pL hS ha, s_cS_gS hS ha, s_clost_al hS ha, s_clost_as hS ha, s_clost_ln hS ha, s_cout_al hS ha, s_cout_as hS ha, s_cout_ln hS ha, s_cpaid_al hS ha, s_cpaid_as hS ha, s_cpaid_ln hS ha, s_ctrust_al hS ha, s_ctrust_as hS ha, s_ctrust_ln hS ha, s_crot_al hS ha, s_crot_as hS ha, s_crot_ln hS ha, s_chands_al hS ha, s_chands_as hS ha, s_chands_ln hS ha, s_cto_al hS ha, s_cto_as hS ha, s_cto_ln hS ha, s_cends_al hS ha, s_cends_as hS ha, s_cends_ln hS ha, s_cret_al hS ha, s_cret_as hS ha, s_cret_ln hS ha, s_ccrew_al hS ha, s_ccrew_as hS ha, s_ccrew_ln hS ha, s_cL_gi hS ha, s_cL_gL hS ha, s_cL_pi hS ha, s_cL_pL hS ha, s_cL_gS hS ha, s_clcosts_al hS ha, s_clcosts_as hS ha, s_clcosts_ln hS ha, s_clcomers_al hS ha, s_clcomers_as hS ha, s_clcomers_ln hS ha, s_clleavers_al hS ha, s_clleavers_as hS ha, s_clleavers_ln hS ha, s_clengs_al hS ha, s_clengs_as hS ha, s_clengs_ln hS ha, s_cltimes_al hS ha, s_cltimes_as hS ha, s_cltimes_ln hS ha, s_clcrews_al hS ha, s_clcrews_as hS ha, s_clcrews_ln hS ha, s_cbest_al hS ha, s_cbest_as hS ha, s_cbest_ln hS ha, s_plost hS ha, s_pout hS ha, s_ppaid hS ha, s_ptrust hS ha, s_prot hS ha, s_phands hS ha, s_pto hS ha, s_pends hS ha, s_pret hS ha, s_pcrew hS ha, s_plog hS ha, s_plcosts hS ha, s_plcomers hS ha, s_plleavers hS ha, s_plengs hS ha, s_pltimes hS ha, s_plcrews hS ha, s_pbest hS ha, p_cP_gi hS hP, p_cP_gL hS hP, p_cP_pi hS hP, p_cP_pL hS hP, p_cP_gS hS hP, p_cN_gi hS hP, p_cN_gL hS hP, p_cN_pi hS hP, p_cN_pL hS hP, p_cN_gS hS hP, p_cps_ln hS hP, p_ctr_al hS hP, p_ctr_as hS hP, p_ctr_ln hS hP, p_cgs_ln hS hP, p_ces_ln hS hP, p_cks_ln hS hP, p_cable_al hS hP, p_cable_as hS hP, p_cable_ln hS hP, p_pN hS hP, p_pps hS hP, p_ptr hS hP, p_pgs hS hP, p_pes hS hP, p_pks hS hP, p_pable hS hP, p_ep_al hS hP, p_ep_gi hS hP, p_ep_gL hS hP, p_ep_pi hS hP, p_ep_pL hS hP, p_ep_gS hS hP, p_eg_al hS hP, p_eg_gi hS hP, p_eg_gL hS hP, p_eg_pi hS hP, p_eg_pL hS hP, p_eg_gS hS hP, p_egr_p hS hP, p_egr_al hS hP, p_egr_as hS hP, p_egr_ln hS hP, p_ee_al hS hP, p_ee_gi hS hP, p_ee_gL hS hP, p_ee_pi hS hP, p_ee_pL hS hP, p_ee_gS hS hP, p_ees_p hS hP, p_ees_al hS hP, p_ees_as hS hP, p_ees_ln hS hP, p_eed_p hS hP, p_eed_al hS hP, p_eed_as hS hP, p_eed_ln hS hP, p_ek_al hS hP, p_ek_gi hS hP, p_ek_gL hS hP, p_ek_pi hS hP, p_ek_pL hS hP, p_ek_gS hS hP, p_ekg_p hS hP, p_ekg_al hS hP, p_ekg_as hS hP, p_ekg_ln hS hP, p_eke_p hS hP, p_eke_al hS hP, p_eke_as hS hP, p_eke_ln hS hP, g5, I.g3, b2i_0, I.needPerson, I.needPager, I.needEngine, I.needKind, I.needCall, I.needTwo, c]
    · have S1 := I1.sh
      refine rq_exc (w := nI 0) ?_ (by decide)
      simp (maxSteps := 3000000) (disch := first | assumption | omega | exact hR.all _) only [m_X12_lostSleepAfter, bO_v, bR_v, bX_l, bX_r, bC_l, bC_r, aJ_v, aLet_v, nI_add, pk_mul, dvI_n, rmI_n, iMax_n, iMin_n, zO_0, zO_1, li_0, li_1, li_2, li_3, li_4, li_5, li_6, li_7, li_8, li_9, li_10, li_12, li_14, li_15, li_16, li_18, li_19, li_20, li_22, li_23, li_24, li_26, li_29, li_30, li_31, li_32, li_36, li_38, li_48, li_50, li_57, li_58, li_59, li_60, li_63, li_97, li_99, li_120, li_122, li_144, li_168, li_194, li_240, li_255, li_284, li_299, li_603, li_999, li_1200, li_1440, li_4095, li_4096, li_6030, li_16384, li_20160, zl0, zl1, zl2, zl3, zl4, ze01, ze02, ze03, ze04, ze10, ze12, ze13, ze14, ze20, ze21, ze23, ze24, ze30, ze31, ze32, ze34, ze40, ze41, ze42, ze43, zt0, zt1, zt2, zt3, zt4, zq0, zq1, zq2, zq3, zq4, it_t, it_f, Bool.true_eq_false, Bool.false_eq_true, na5, na4, na1441, na2, na10, sx_IOIA, sx_IOIS, sx_IONS, sx_IAIO, sx_IAIS, sx_IANS, sx_ISIO, sx_ISIA, sx_ISNS, sx_NSIO, sx_NSIA, sx_NSIS, r_cM_gS S1, r_cM_pi S1, rz_gi S1, r_p413 S1, r_c413_al S1, r_isPerson S1 I1.z hD, r_isPager S1 I1.z hD, r_isKind S1 I1.z hD, r_isCouple S1 I1.z hD, b2i_0, nI_leI, c]
  · obtain ⟨p, hp, rfl⟩ := inr_t c (by omega)
    cases c2 : inr n 1441
    · refine ⟨2, 0, by decide, cq_exc ?_ (by decide), fun h1 I1 => ?_⟩
      · simp (maxSteps := 3000000) (disch := first | assumption | omega | exact hR.all _) only [m_L_lostSleepAfter, m_X11_lostSleepAfter, bO_v, bR_v, bX_l, bX_r, bC_l, bC_r, aJ_v, aLet_v, nI_add, pk_mul, dvI_n, rmI_n, iMax_n, iMin_n, zO_0, zO_1, li_0, li_1, li_2, li_3, li_4, li_5, li_6, li_7, li_8, li_9, li_10, li_12, li_14, li_15, li_16, li_18, li_19, li_20, li_22, li_23, li_24, li_26, li_29, li_30, li_31, li_32, li_36, li_38, li_48, li_50, li_57, li_58, li_59, li_60, li_63, li_97, li_99, li_120, li_122, li_144, li_168, li_194, li_240, li_255, li_284, li_299, li_603, li_999, li_1200, li_1440, li_4095, li_4096, li_6030, li_16384, li_20160, zl0, zl1, zl2, zl3, zl4, ze01, ze02, ze03, ze04, ze10, ze12, ze13, ze14, ze20, ze21, ze23, ze24, ze30, ze31, ze32, ze34, ze40, ze41, ze42, ze43, zt0, zt1, zt2, zt3, zt4, zq0, zq1, zq2, zq3, zq4, it_t, it_f, Bool.true_eq_false, Bool.false_eq_true, na5, na4, na1441, na2, na10, sx_IOIA, sx_IOIS, sx_IONS, sx_IAIO, sx_IAIS, sx_IANS, sx_ISIO, sx_ISIA, sx_ISNS, sx_NSIO, sx_NSIA, sx_NSIS, c_cX_gS hS, c_cX_gi hS, c_pmu hS, c_co_as hS, s_cS_gi hS ha, s_cS_gL hS ha, s_cS_pi hS ha, s_cS_pL hS ha, s_cS_gS hS ha, s_clost_al hS ha, s_clost_as hS ha, s_clost_ln hS ha, s_cout_al hS ha, s_cout_as hS ha, s_cout_ln hS ha, s_cpaid_al hS ha, s_cpaid_as hS ha, s_cpaid_ln hS ha, s_ctrust_al hS ha, s_ctrust_as hS ha, s_ctrust_ln hS ha, s_crot_al hS ha, s_crot_as hS ha, s_crot_ln hS ha, s_chands_al hS ha, s_chands_as hS ha, s_chands_ln hS ha, s_cto_al hS ha, s_cto_as hS ha, s_cto_ln hS ha, s_cends_al hS ha, s_cends_as hS ha, s_cends_ln hS ha, s_cret_al hS ha, s_cret_as hS ha, s_cret_ln hS ha, s_ccrew_al hS ha, s_ccrew_as hS ha, s_ccrew_ln hS ha, s_cL_gi hS ha, s_cL_gL hS ha, s_cL_pi hS ha, s_cL_pL hS ha, s_cL_gS hS ha, s_clcosts_al hS ha, s_clcosts_as hS ha, s_clcosts_ln hS ha, s_clcomers_al hS ha, s_clcomers_as hS ha, s_clcomers_ln hS ha, s_clleavers_al hS ha, s_clleavers_as hS ha, s_clleavers_ln hS ha, s_clengs_al hS ha, s_clengs_as hS ha, s_clengs_ln hS ha, s_cltimes_al hS ha, s_cltimes_as hS ha, s_cltimes_ln hS ha, s_clcrews_al hS ha, s_clcrews_as hS ha, s_clcrews_ln hS ha, s_cbest_al hS ha, s_cbest_as hS ha, s_cbest_ln hS ha, s_plost hS ha, s_pout hS ha, s_ppaid hS ha, s_ptrust hS ha, s_prot hS ha, s_phands hS ha, s_pto hS ha, s_pends hS ha, s_pret hS ha, s_pcrew hS ha, s_plog hS ha, s_plcosts hS ha, s_plcomers hS ha, s_plleavers hS ha, s_plengs hS ha, s_pltimes hS ha, s_plcrews hS ha, s_pbest hS ha, p_cP_gi hS hP, p_cP_gL hS hP, p_cP_pi hS hP, p_cP_pL hS hP, p_cP_gS hS hP, p_cN_gi hS hP, p_cN_gL hS hP, p_cN_pi hS hP, p_cN_pL hS hP, p_cN_gS hS hP, p_cps_ln hS hP, p_ctr_al hS hP, p_ctr_as hS hP, p_ctr_ln hS hP, p_cgs_ln hS hP, p_ces_ln hS hP, p_cks_ln hS hP, p_cable_al hS hP, p_cable_as hS hP, p_cable_ln hS hP, p_pN hS hP, p_pps hS hP, p_ptr hS hP, p_pgs hS hP, p_pes hS hP, p_pks hS hP, p_pable hS hP, p_ep_al hS hP, p_ep_gi hS hP, p_ep_gL hS hP, p_ep_pi hS hP, p_ep_pL hS hP, p_ep_gS hS hP, p_eg_al hS hP, p_eg_gi hS hP, p_eg_gL hS hP, p_eg_pi hS hP, p_eg_pL hS hP, p_eg_gS hS hP, p_egr_p hS hP, p_egr_al hS hP, p_egr_as hS hP, p_egr_ln hS hP, p_ee_al hS hP, p_ee_gi hS hP, p_ee_gL hS hP, p_ee_pi hS hP, p_ee_pL hS hP, p_ee_gS hS hP, p_ees_p hS hP, p_ees_al hS hP, p_ees_as hS hP, p_ees_ln hS hP, p_eed_p hS hP, p_eed_al hS hP, p_eed_as hS hP, p_eed_ln hS hP, p_ek_al hS hP, p_ek_gi hS hP, p_ek_gL hS hP, p_ek_pi hS hP, p_ek_pL hS hP, p_ek_gS hS hP, p_ekg_p hS hP, p_ekg_al hS hP, p_ekg_as hS hP, p_ekg_ln hS hP, p_eke_p hS hP, p_eke_al hS hP, p_eke_as hS hP, p_eke_ln hS hP, g5, I.g3, b2i_0, I.needPerson, I.needPager, I.needEngine, I.needKind, I.needCall, I.needTwo, c, ndle, c2]
      · have S1 := I1.sh
        refine rq_exc (w := nI 0) ?_ (by decide)
        simp (maxSteps := 3000000) (disch := first | assumption | omega | exact hR.all _) only [m_X12_lostSleepAfter, bO_v, bR_v, bX_l, bX_r, bC_l, bC_r, aJ_v, aLet_v, nI_add, pk_mul, dvI_n, rmI_n, iMax_n, iMin_n, zO_0, zO_1, li_0, li_1, li_2, li_3, li_4, li_5, li_6, li_7, li_8, li_9, li_10, li_12, li_14, li_15, li_16, li_18, li_19, li_20, li_22, li_23, li_24, li_26, li_29, li_30, li_31, li_32, li_36, li_38, li_48, li_50, li_57, li_58, li_59, li_60, li_63, li_97, li_99, li_120, li_122, li_144, li_168, li_194, li_240, li_255, li_284, li_299, li_603, li_999, li_1200, li_1440, li_4095, li_4096, li_6030, li_16384, li_20160, zl0, zl1, zl2, zl3, zl4, ze01, ze02, ze03, ze04, ze10, ze12, ze13, ze14, ze20, ze21, ze23, ze24, ze30, ze31, ze32, ze34, ze40, ze41, ze42, ze43, zt0, zt1, zt2, zt3, zt4, zq0, zq1, zq2, zq3, zq4, it_t, it_f, Bool.true_eq_false, Bool.false_eq_true, na5, na4, na1441, na2, na10, sx_IOIA, sx_IOIS, sx_IONS, sx_IAIO, sx_IAIS, sx_IANS, sx_ISIO, sx_ISIA, sx_ISNS, sx_NSIO, sx_NSIA, sx_NSIS, r_cM_gS S1, r_cM_pi S1, rz_gi S1, r_p413 S1, r_c413_al S1, r_isPerson S1 I1.z hD, r_isPager S1 I1.z hD, r_isKind S1 I1.z hD, r_isCouple S1 I1.z hD, b2i_0, nI_leI, c, r_in1440, c2]
    · obtain ⟨n, hn, rfl⟩ := inr_t c2 (by decide)
      refine ⟨0, nI (lostF (T 418 0) (T 418 1) (T 413 (14 + p)) (T 413 (2 + p)) (T 413 0) (T 413 0 + n)), by decide, cq_val ?_, fun h1 I1 => ?_⟩
      · simp (maxSteps := 3000000) (disch := first | assumption | omega | exact hR.all _) only [m_L_lostSleepAfter, m_X11_lostSleepAfter, bO_v, bR_v, bX_l, bX_r, bC_l, bC_r, aJ_v, aLet_v, nI_add, pk_mul, dvI_n, rmI_n, iMax_n, iMin_n, zO_0, zO_1, li_0, li_1, li_2, li_3, li_4, li_5, li_6, li_7, li_8, li_9, li_10, li_12, li_14, li_15, li_16, li_18, li_19, li_20, li_22, li_23, li_24, li_26, li_29, li_30, li_31, li_32, li_36, li_38, li_48, li_50, li_57, li_58, li_59, li_60, li_63, li_97, li_99, li_120, li_122, li_144, li_168, li_194, li_240, li_255, li_284, li_299, li_603, li_999, li_1200, li_1440, li_4095, li_4096, li_6030, li_16384, li_20160, zl0, zl1, zl2, zl3, zl4, ze01, ze02, ze03, ze04, ze10, ze12, ze13, ze14, ze20, ze21, ze23, ze24, ze30, ze31, ze32, ze34, ze40, ze41, ze42, ze43, zt0, zt1, zt2, zt3, zt4, zq0, zq1, zq2, zq3, zq4, it_t, it_f, Bool.true_eq_false, Bool.false_eq_true, na5, na4, na1441, na2, na10, sx_IOIA, sx_IOIS, sx_IONS, sx_IAIO, sx_IAIS, sx_IANS, sx_ISIO, sx_ISIA, sx_ISNS, sx_NSIO, sx_NSIA, sx_NSIS, c_cX_gS hS, c_cX_gi hS, c_pmu hS, c_co_as hS, s_cS_gi hS ha, s_cS_gL hS ha, s_cS_pi hS ha, s_cS_pL hS ha, s_cS_gS hS ha, s_clost_al hS ha, s_clost_as hS ha, s_clost_ln hS ha, s_cout_al hS ha, s_cout_as hS ha, s_cout_ln hS ha, s_cpaid_al hS ha, s_cpaid_as hS ha, s_cpaid_ln hS ha, s_ctrust_al hS ha, s_ctrust_as hS ha, s_ctrust_ln hS ha, s_crot_al hS ha, s_crot_as hS ha, s_crot_ln hS ha, s_chands_al hS ha, s_chands_as hS ha, s_chands_ln hS ha, s_cto_al hS ha, s_cto_as hS ha, s_cto_ln hS ha, s_cends_al hS ha, s_cends_as hS ha, s_cends_ln hS ha, s_cret_al hS ha, s_cret_as hS ha, s_cret_ln hS ha, s_ccrew_al hS ha, s_ccrew_as hS ha, s_ccrew_ln hS ha, s_cL_gi hS ha, s_cL_gL hS ha, s_cL_pi hS ha, s_cL_pL hS ha, s_cL_gS hS ha, s_clcosts_al hS ha, s_clcosts_as hS ha, s_clcosts_ln hS ha, s_clcomers_al hS ha, s_clcomers_as hS ha, s_clcomers_ln hS ha, s_clleavers_al hS ha, s_clleavers_as hS ha, s_clleavers_ln hS ha, s_clengs_al hS ha, s_clengs_as hS ha, s_clengs_ln hS ha, s_cltimes_al hS ha, s_cltimes_as hS ha, s_cltimes_ln hS ha, s_clcrews_al hS ha, s_clcrews_as hS ha, s_clcrews_ln hS ha, s_cbest_al hS ha, s_cbest_as hS ha, s_cbest_ln hS ha, s_plost hS ha, s_pout hS ha, s_ppaid hS ha, s_ptrust hS ha, s_prot hS ha, s_phands hS ha, s_pto hS ha, s_pends hS ha, s_pret hS ha, s_pcrew hS ha, s_plog hS ha, s_plcosts hS ha, s_plcomers hS ha, s_plleavers hS ha, s_plengs hS ha, s_pltimes hS ha, s_plcrews hS ha, s_pbest hS ha, p_cP_gi hS hP, p_cP_gL hS hP, p_cP_pi hS hP, p_cP_pL hS hP, p_cP_gS hS hP, p_cN_gi hS hP, p_cN_gL hS hP, p_cN_pi hS hP, p_cN_pL hS hP, p_cN_gS hS hP, p_cps_ln hS hP, p_ctr_al hS hP, p_ctr_as hS hP, p_ctr_ln hS hP, p_cgs_ln hS hP, p_ces_ln hS hP, p_cks_ln hS hP, p_cable_al hS hP, p_cable_as hS hP, p_cable_ln hS hP, p_pN hS hP, p_pps hS hP, p_ptr hS hP, p_pgs hS hP, p_pes hS hP, p_pks hS hP, p_pable hS hP, p_ep_al hS hP, p_ep_gi hS hP, p_ep_gL hS hP, p_ep_pi hS hP, p_ep_pL hS hP, p_ep_gS hS hP, p_eg_al hS hP, p_eg_gi hS hP, p_eg_gL hS hP, p_eg_pi hS hP, p_eg_pL hS hP, p_eg_gS hS hP, p_egr_p hS hP, p_egr_al hS hP, p_egr_as hS hP, p_egr_ln hS hP, p_ee_al hS hP, p_ee_gi hS hP, p_ee_gL hS hP, p_ee_pi hS hP, p_ee_pL hS hP, p_ee_gS hS hP, p_ees_p hS hP, p_ees_al hS hP, p_ees_as hS hP, p_ees_ln hS hP, p_eed_p hS hP, p_eed_al hS hP, p_eed_as hS hP, p_eed_ln hS hP, p_ek_al hS hP, p_ek_gi hS hP, p_ek_gL hS hP, p_ek_pi hS hP, p_ek_pL hS hP, p_ek_gS hS hP, p_ekg_p hS hP, p_ekg_al hS hP, p_ekg_as hS hP, p_ekg_ln hS hP, p_eke_p hS hP, p_eke_al hS hP, p_eke_as hS hP, p_eke_ln hS hP, g5, I.g3, b2i_0, I.needPerson, I.needPager, I.needEngine, I.needKind, I.needCall, I.needTwo, c, ndle, c2, x.tm, k_lostAt hS ha hP x y hD hR hp (show T 413 0 ≤ T 413 0 + n by omega) (show T 413 0 + n < 100000 by omega)]
      · have S1 := I1.sh
        have S0 : Sh (h_si h1 412 0 (nI 0)) := S1.si _ _ _
        have z0 : RefR (h_si h1 412 0 (nI 0)) T := I1.z.rz
        refine rq0 ?_
        simp (maxSteps := 3000000) (disch := first | assumption | omega | exact hR.all _) only [m_X12_lostSleepAfter, bO_v, bR_v, bX_l, bX_r, bC_l, bC_r, aLet_v, nI_add, pk_mul, dvI_n, rmI_n, iMax_n, iMin_n, zO_0, zO_1, li_0, li_1, li_2, li_3, li_4, li_5, li_6, li_7, li_8, li_9, li_10, li_12, li_14, li_15, li_16, li_18, li_19, li_20, li_22, li_23, li_24, li_26, li_29, li_30, li_31, li_32, li_36, li_38, li_48, li_50, li_57, li_58, li_59, li_60, li_63, li_97, li_99, li_120, li_122, li_144, li_168, li_194, li_240, li_255, li_284, li_299, li_603, li_999, li_1200, li_1440, li_4095, li_4096, li_6030, li_16384, li_20160, zl0, zl1, zl2, zl3, zl4, ze01, ze02, ze03, ze04, ze10, ze12, ze13, ze14, ze20, ze21, ze23, ze24, ze30, ze31, ze32, ze34, ze40, ze41, ze42, ze43, zt0, zt1, zt2, zt3, zt4, zq0, zq1, zq2, zq3, zq4, it_t, it_f, Bool.true_eq_false, Bool.false_eq_true, na5, na4, na1441, na2, na10, sx_IOIA, sx_IOIS, sx_IONS, sx_IAIO, sx_IAIS, sx_IANS, sx_ISIO, sx_ISIA, sx_ISNS, sx_NSIO, sx_NSIA, sx_NSIS, r_cM_gS S1, r_cM_pi S1, rz_gi S1, r_isPerson S1 I1.z hD, b2i_0, c, c2, r_in1440, Bool.true_eq_false, aJ_v, r_cM_gS S0, nI_leI]
        have g0 : h_iv (h_si h1 412 0 (nI 0)) 412 0 = nI 0 := si_at
        have G : QF 0 h1 (h_si h1 412 0 (nI 0)) := QF.si (by unfold SQ; omega)
        have GL : h_lv (h_si h1 412 0 (nI 0)) = h_lv h1 := rfl
        generalize h_si h1 412 0 (nI 0) = h0 at S0 z0 g0 G GL ⊢
        refine ok_bR (r_lays S0) (fun _ h2 hh => ?_)
        obtain ⟨F2, v2⟩ := hh
        have S2 := F2.sh S0
        have z2 := z0.fr F2 (fun o q1 q2 q3 => q3)
        refine aL1_run (R := fun o => OK o _) (fun m s1 h3 => ∃ i, i ≤ n ∧ m = n - i ∧ s1 = nI i ∧ RW h2 h3 (itS T (T 413) i)) ⟨0, Nat.zero_le _, rfl, rfl, Fr.rf, fun j => z2.c413 j⟩ (by omega) ?_
        rintro rec m s1 h3 ⟨i, hi, rfl, rfl, R3⟩ ih
        have S3 := R3.1.sh S2
        by_cases hlt : i < n
        · simp (maxSteps := 3000000) (disch := first | assumption | omega | exact hR.all _) only [m_X12_lostSleepAfter_L48, bO_v, bR_v, bX_l, bX_r, bC_l, bC_r, aLet_v, nI_add, pk_mul, dvI_n, rmI_n, iMax_n, iMin_n, zO_0, zO_1, li_0, li_1, li_2, li_3, li_4, li_5, li_6, li_7, li_8, li_9, li_10, li_12, li_14, li_15, li_16, li_18, li_19, li_20, li_22, li_23, li_24, li_26, li_29, li_30, li_31, li_32, li_36, li_38, li_48, li_50, li_57, li_58, li_59, li_60, li_63, li_97, li_99, li_120, li_122, li_144, li_168, li_194, li_240, li_255, li_284, li_299, li_603, li_999, li_1200, li_1440, li_4095, li_4096, li_6030, li_16384, li_20160, zl0, zl1, zl2, zl3, zl4, ze01, ze02, ze03, ze04, ze10, ze12, ze13, ze14, ze20, ze21, ze23, ze24, ze30, ze31, ze32, ze34, ze40, ze41, ze42, ze43, zt0, zt1, zt2, zt3, zt4, zq0, zq1, zq2, zq3, zq4, it_t, it_f, Bool.true_eq_false, Bool.false_eq_true, na5, na4, na1441, na2, na10, sx_IOIA, sx_IOIS, sx_IONS, sx_IAIO, sx_IAIS, sx_IANS, sx_ISIO, sx_ISIA, sx_ISNS, sx_NSIO, sx_NSIA, sx_NSIS, r_cM_gS S3, nI_ltI]
          rw [if_pos hlt]
          refine ok_bR (r_minI S2 z2 hD hR (by omega) R3) (fun r h4 hh => ?_)
          exact ih _ _ _ (by omega) ⟨i + 1, hlt, rfl, rfl, hh.2⟩
        · obtain rfl : i = n := by omega
          simp (maxSteps := 3000000) (disch := first | assumption | omega | exact hR.all _) only [m_X12_lostSleepAfter_L48, bO_v, bR_v, bX_l, bX_r, bC_l, bC_r, aLet_v, nI_add, pk_mul, dvI_n, rmI_n, iMax_n, iMin_n, zO_0, zO_1, li_0, li_1, li_2, li_3, li_4, li_5, li_6, li_7, li_8, li_9, li_10, li_12, li_14, li_15, li_16, li_18, li_19, li_20, li_22, li_23, li_24, li_26, li_29, li_30, li_31, li_32, li_36, li_38, li_48, li_50, li_57, li_58, li_59, li_60, li_63, li_97, li_99, li_120, li_122, li_144, li_168, li_194, li_240, li_255, li_284, li_299, li_603, li_999, li_1200, li_1440, li_4095, li_4096, li_6030, li_16384, li_20160, zl0, zl1, zl2, zl3, zl4, ze01, ze02, ze03, ze04, ze10, ze12, ze13, ze14, ze20, ze21, ze23, ze24, ze30, ze31, ze32, ze34, ze40, ze41, ze42, ze43, zt0, zt1, zt2, zt3, zt4, zq0, zq1, zq2, zq3, zq4, it_t, it_f, Bool.true_eq_false, Bool.false_eq_true, na5, na4, na1441, na2, na10, sx_IOIA, sx_IOIS, sx_IONS, sx_IAIO, sx_IAIS, sx_IANS, sx_ISIO, sx_ISIA, sx_ISNS, sx_NSIO, sx_NSIA, sx_NSIS, nI_ltI]
          rw [if_neg hlt]
          simp (maxSteps := 3000000) (disch := first | assumption | omega | exact hR.all _) only [bO_v, bR_v, bX_l, bX_r, bC_l, bC_r, aJ_v, aLet_v, nI_add, pk_mul, dvI_n, rmI_n, iMax_n, iMin_n, zO_0, zO_1, li_0, li_1, li_2, li_3, li_4, li_5, li_6, li_7, li_8, li_9, li_10, li_12, li_14, li_15, li_16, li_18, li_19, li_20, li_22, li_23, li_24, li_26, li_29, li_30, li_31, li_32, li_36, li_38, li_48, li_50, li_57, li_58, li_59, li_60, li_63, li_97, li_99, li_120, li_122, li_144, li_168, li_194, li_240, li_255, li_284, li_299, li_603, li_999, li_1200, li_1440, li_4095, li_4096, li_6030, li_16384, li_20160, zl0, zl1, zl2, zl3, zl4, ze01, ze02, ze03, ze04, ze10, ze12, ze13, ze14, ze20, ze21, ze23, ze24, ze30, ze31, ze32, ze34, ze40, ze41, ze42, ze43, zt0, zt1, zt2, zt3, zt4, zq0, zq1, zq2, zq3, zq4, it_t, it_f, Bool.true_eq_false, Bool.false_eq_true, na5, na4, na1441, na2, na10, sx_IOIA, sx_IOIS, sx_IONS, sx_IAIO, sx_IAIS, sx_IANS, sx_ISIO, sx_ISIA, sx_ISNS, sx_NSIO, sx_NSIA, sx_NSIS, r_p413 S3, r_c413_al S3, R3.2, r_cM_gS S3]
          refine ok_bR (r_takes S3) (fun _ h4 hh => ?_)
          obtain ⟨F4, v4⟩ := hh
          have B := back_iv hD F2 v2 z0.c413 R3 F4 v4
          refine ok_ret ⟨G.trans (QF.fr B (fun o q k => by rw [q]; unfold SQ; omega)), ?_, ?_, ?_⟩
          · rw [B.2.2.2.2.2.1, GL]
          · rw [B.iv (by decide), g0]
          · rw [it_lost hD hp, lostK_F]
/-- the first rested minute within M -/
def rstF (T : Nat → Nat → Nat) (S : Nat → Nat) (p M : Nat) : Nat := fa_first (fun k => decide (lostK (T 418 0) (T 418 1) (S (14 + p)) (S (2 + p)) (S 0) k < T 418 3)) M
theorem k_firstRested (hS : Sh h) {a : Nat} {S : Nat → Nat} (ha : a ∈ stL) (hP : P ∈ plL) (x : StR h a P T S) (y : PlR h P T) (hD : PlD T) (hR : RwD T S) (tm : S 0 ≤ 20160) {p : Nat} (hp : p < T 412 8) : m_X10_firstRested a (nI p) h = some (nI (S 0 + rstF T S p (20161 - S 0)), h) := by
  have d0 := hD.nP
  have d1 := hD.lim
  have kp := k_plan hS ha hP x
  have kt := k_isTired hS ha hP x y hD hR hp
  have r1 := hR.lost p hp
  have r2 := hR.out p hp
  have fl := fa_first_le (fun k => decide (lostK (T 418 0) (T 418 1) (S (14 + p)) (S (2 + p)) (S 0) k < T 418 3)) (20161 - S 0)
  have fn := fa_first_no (fun k => decide (lostK (T 418 0) (T 418 1) (S (14 + p)) (S (2 + p)) (S 0) k < T 418 3)) (20161 - S 0)
  have fy := fa_first_yes (fun k => decide (lostK (T 418 0) (T 418 1) (S (14 + p)) (S (2 + p)) (S 0) k < T 418 3)) (20161 - S 0)
  unfold rstF
  generalize hF : fa_first (fun k => decide (lostK (T 418 0) (T 418 1) (S (14 + p)) (S (2 + p)) (S 0) k < T 418 3)) (20161 - S 0) = F at *
  by_cases c0 : T 418 3 ≤ S (2 + p)
  · have tired : ∀ k, S 0 + k ≤ 20160 → (T 418 3 ≤ lostK (T 418 0) (T 418 1) (S (14 + p)) (S (2 + p)) (S 0) k ↔ k < F) := fun k hk => by
      constructor
      · intro q
        by_cases e : k < F
        · exact e
        · have f2 := of_decide_eq_true (fy (by omega))
          have := lostK_row (T 418 0) (T 418 1) (S (14 + p)) (S (2 + p)) (S 0) (T 418 3) c0 (show F ≤ k by omega) q
          omega
      · intro q
        have := of_decide_eq_false (fn k q)
        omega
    have F1 : 0 < F := (tired 0 (by omega)).mp c0
    have it : isT T S p = true := decide_eq_true c0
    rw [it] at kt
    simp (maxSteps := 3000000) (disch := first | assumption | omega | exact hR.all _) only [m_X10_firstRested, bO_v, bR_v, bX_l, bX_r, bC_l, bC_r, aLet_v, nI_add, pk_mul, dvI_n, rmI_n, iMax_n, iMin_n, zO_0, zO_1, li_0, li_1, li_2, li_3, li_4, li_5, li_6, li_7, li_8, li_9, li_10, li_12, li_14, li_15, li_16, li_18, li_19, li_20, li_22, li_23, li_24, li_26, li_29, li_30, li_31, li_32, li_36, li_38, li_48, li_50, li_57, li_58, li_59, li_60, li_63, li_97, li_99, li_120, li_122, li_144, li_168, li_194, li_240, li_255, li_284, li_299, li_603, li_999, li_1200, li_1440, li_4095, li_4096, li_6030, li_16384, li_20160, zl0, zl1, zl2, zl3, zl4, ze01, ze02, ze03, ze04, ze10, ze12, ze13, ze14, ze20, ze21, ze23, ze24, ze30, ze31, ze32, ze34, ze40, ze41, ze42, ze43, zt0, zt1, zt2, zt3, zt4, zq0, zq1, zq2, zq3, zq4, it_t, it_f, Bool.true_eq_false, Bool.false_eq_true, na5, na4, na1441, na2, na10, sx_IOIA, sx_IOIS, sx_IONS, sx_IAIO, sx_IAIS, sx_IANS, sx_ISIO, sx_ISIA, sx_ISNS, sx_NSIO, sx_NSIA, sx_NSIS, s_cS_gS hS ha, kt, s_cS_gi hS ha, x.tm, b2i_0, Bool.true_eq_false, aJ_v]
    refine aL2_run (R := fun o => o = some (nI (S 0 + F), h)) (fun m s1 s2 h1 => h1 = h ∧ ∃ c L, s1 = nI (S 0 + c) ∧ s2 = nI L ∧ c < F ∧ ((∃ e, e ≤ 14 ∧ L = 2 ^ e ∧ m = e + 1 ∧ F ≤ c + 2 * L) ∨ (L = 0 ∧ m = 0 ∧ F ≤ c + 1))) (m := 15) ⟨rfl, 0, 16384, by rw [Nat.add_zero], rfl, F1, Or.inl ⟨14, by decide, by decide, rfl, by omega⟩⟩ (by omega) ?_
    rintro rec m s1 s2 h1 ⟨rfl, c, L, rfl, rfl, hc, hL⟩ ih
    rcases hL with ⟨e, he, rfl, rfl, hFL⟩ | ⟨rfl, rfl, hFL⟩
    · have L1 : 0 < 2 ^ e := Nat.two_pow_pos e
      have L2 : 2 ^ e ≤ 16384 := Nat.pow_le_pow_right (show 1 ≤ 2 by decide) he
      have half : 2 ^ e / 2 = if e = 0 then 0 else 2 ^ (e - 1) := by
        by_cases e0 : e = 0
        · rw [e0]; rfl
        · obtain ⟨u, rfl⟩ : ∃ u, e = u + 1 := ⟨e - 1, by omega⟩
          rw [if_neg e0, Nat.pow_succ, Nat.mul_div_cancel _ (by decide)]; rfl
      have two : e ≠ 0 → 2 ^ e = 2 * 2 ^ (e - 1) := fun e0 => by
        obtain ⟨u, rfl⟩ : ∃ u, e = u + 1 := ⟨e - 1, by omega⟩
        rw [Nat.pow_succ, Nat.mul_comm]; rfl
      have next : ∀ c', c' < F → F ≤ c' + 2 ^ e → rec (nI (S 0 + c')) (nI (2 ^ e / 2)) h1 = some (nI (S 0 + F), h1) := fun c' q1 q2 => by
        rw [half]
        by_cases e0 : e = 0
        · rw [if_pos e0]
          exact ih 0 _ _ _ (by omega) ⟨rfl, c', 0, rfl, rfl, q1, Or.inr ⟨rfl, rfl, by rw [e0] at q2; exact q2⟩⟩
        · rw [if_neg e0]
          exact ih e _ _ _ (by omega) ⟨rfl, c', 2 ^ (e - 1), rfl, rfl, q1, Or.inl ⟨e - 1, by omega, rfl, by omega, by rw [← two e0]; exact q2⟩⟩
      have nz : ¬ 2 ^ e ≤ 0 := by omega
      generalize 2 ^ e = L at *
      simp (maxSteps := 3000000) (disch := first | assumption | omega | exact hR.all _) only [m_X10_firstRested_L22, bO_v, bR_v, bX_l, bX_r, bC_l, bC_r, aJ_v, aLet_v, nI_add, pk_mul, dvI_n, rmI_n, iMax_n, iMin_n, zO_0, zO_1, li_0, li_1, li_2, li_3, li_4, li_5, li_6, li_7, li_8, li_9, li_10, li_12, li_14, li_15, li_16, li_18, li_19, li_20, li_22, li_23, li_24, li_26, li_29, li_30, li_31, li_32, li_36, li_38, li_48, li_50, li_57, li_58, li_59, li_60, li_63, li_97, li_99, li_120, li_122, li_144, li_168, li_194, li_240, li_255, li_284, li_299, li_603, li_999, li_1200, li_1440, li_4095, li_4096, li_6030, li_16384, li_20160, zl0, zl1, zl2, zl3, zl4, ze01, ze02, ze03, ze04, ze10, ze12, ze13, ze14, ze20, ze21, ze23, ze24, ze30, ze31, ze32, ze34, ze40, ze41, ze42, ze43, zt0, zt1, zt2, zt3, zt4, zq0, zq1, zq2, zq3, zq4, it_t, it_f, Bool.true_eq_false, Bool.false_eq_true, na5, na4, na1441, na2, na10, sx_IOIA, sx_IOIS, sx_IONS, sx_IAIO, sx_IAIS, sx_IANS, sx_ISIO, sx_ISIA, sx_ISNS, sx_NSIO, sx_NSIA, sx_NSIS, s_cS_gS hS ha, kp, p_pN hS hP, p_cN_gi hS hP, y.ni 3 (by omega), nI_leI, nI_ltI, nz]
      by_cases c1 : S 0 + c + L ≤ 20160
      · have kl := k_lostAt hS ha hP x y hD hR hp (s := S 0 + c + L) (by omega) (by omega)
        have lf := lostK_F (T 418 0) (T 418 1) (S (14 + p)) (S (2 + p)) (S 0) (c + L)
        rw [← Nat.add_assoc] at lf
        have lb := lostK_le (T 418 0) (T 418 1) (S (14 + p)) (S (2 + p)) (S 0) (c + L)
        rw [← lf] at kl
        have ti := tired (c + L) (by omega)
        simp (maxSteps := 3000000) (disch := first | assumption | omega | exact hR.all _) only [if_pos c1, bO_v, bR_v, bX_l, bX_r, bC_l, bC_r, aJ_v, aLet_v, nI_add, pk_mul, dvI_n, rmI_n, iMax_n, iMin_n, zO_0, zO_1, li_0, li_1, li_2, li_3, li_4, li_5, li_6, li_7, li_8, li_9, li_10, li_12, li_14, li_15, li_16, li_18, li_19, li_20, li_22, li_23, li_24, li_26, li_29, li_30, li_31, li_32, li_36, li_38, li_48, li_50, li_57, li_58, li_59, li_60, li_63, li_97, li_99, li_120, li_122, li_144, li_168, li_194, li_240, li_255, li_284, li_299, li_603, li_999, li_1200, li_1440, li_4095, li_4096, li_6030, li_16384, li_20160, zl0, zl1, zl2, zl3, zl4, ze01, ze02, ze03, ze04, ze10, ze12, ze13, ze14, ze20, ze21, ze23, ze24, ze30, ze31, ze32, ze34, ze40, ze41, ze42, ze43, zt0, zt1, zt2, zt3, zt4, zq0, zq1, zq2, zq3, zq4, it_t, it_f, Bool.true_eq_false, Bool.false_eq_true, na5, na4, na1441, na2, na10, sx_IOIA, sx_IOIS, sx_IONS, sx_IAIO, sx_IAIS, sx_IANS, sx_ISIO, sx_ISIA, sx_ISNS, sx_NSIO, sx_NSIA, sx_NSIS, kl, nI_ltI, kp, p_pN hS hP, p_cN_gi hS hP, y.ni 3 (by omega)]
        by_cases c2 : lostK (T 418 0) (T 418 1) (S (14 + p)) (S (2 + p)) (S 0) (c + L) < T 418 3
        · simp (maxSteps := 3000000) (disch := first | assumption | omega | exact hR.all _) only [if_pos c2, bO_v, bR_v, bX_l, bX_r, bC_l, bC_r, aJ_v, aLet_v, nI_add, pk_mul, dvI_n, rmI_n, iMax_n, iMin_n, zO_0, zO_1, li_0, li_1, li_2, li_3, li_4, li_5, li_6, li_7, li_8, li_9, li_10, li_12, li_14, li_15, li_16, li_18, li_19, li_20, li_22, li_23, li_24, li_26, li_29, li_30, li_31, li_32, li_36, li_38, li_48, li_50, li_57, li_58, li_59, li_60, li_63, li_97, li_99, li_120, li_122, li_144, li_168, li_194, li_240, li_255, li_284, li_299, li_603, li_999, li_1200, li_1440, li_4095, li_4096, li_6030, li_16384, li_20160, zl0, zl1, zl2, zl3, zl4, ze01, ze02, ze03, ze04, ze10, ze12, ze13, ze14, ze20, ze21, ze23, ze24, ze30, ze31, ze32, ze34, ze40, ze41, ze42, ze43, zt0, zt1, zt2, zt3, zt4, zq0, zq1, zq2, zq3, zq4, it_t, it_f, Bool.true_eq_false, Bool.false_eq_true, na5, na4, na1441, na2, na10, sx_IOIA, sx_IOIS, sx_IONS, sx_IAIO, sx_IAIS, sx_IANS, sx_ISIO, sx_ISIA, sx_ISNS, sx_NSIO, sx_NSIA, sx_NSIS]
          exact next c hc (by omega)
        · simp (maxSteps := 3000000) (disch := first | assumption | omega | exact hR.all _) only [if_neg c2, bO_v, bR_v, bX_l, bX_r, bC_l, bC_r, aJ_v, aLet_v, nI_add, pk_mul, dvI_n, rmI_n, iMax_n, iMin_n, zO_0, zO_1, li_0, li_1, li_2, li_3, li_4, li_5, li_6, li_7, li_8, li_9, li_10, li_12, li_14, li_15, li_16, li_18, li_19, li_20, li_22, li_23, li_24, li_26, li_29, li_30, li_31, li_32, li_36, li_38, li_48, li_50, li_57, li_58, li_59, li_60, li_63, li_97, li_99, li_120, li_122, li_144, li_168, li_194, li_240, li_255, li_284, li_299, li_603, li_999, li_1200, li_1440, li_4095, li_4096, li_6030, li_16384, li_20160, zl0, zl1, zl2, zl3, zl4, ze01, ze02, ze03, ze04, ze10, ze12, ze13, ze14, ze20, ze21, ze23, ze24, ze30, ze31, ze32, ze34, ze40, ze41, ze42, ze43, zt0, zt1, zt2, zt3, zt4, zq0, zq1, zq2, zq3, zq4, it_t, it_f, Bool.true_eq_false, Bool.false_eq_true, na5, na4, na1441, na2, na10, sx_IOIA, sx_IOIS, sx_IONS, sx_IAIO, sx_IAIS, sx_IANS, sx_ISIO, sx_ISIA, sx_ISNS, sx_NSIO, sx_NSIA, sx_NSIS]
          rw [Nat.add_assoc]
          exact next (c + L) (ti.mp (by omega)) (by omega)
      · simp (maxSteps := 3000000) (disch := first | assumption | omega | exact hR.all _) only [if_neg c1, bO_v, bR_v, bX_l, bX_r, bC_l, bC_r, aJ_v, aLet_v, nI_add, pk_mul, dvI_n, rmI_n, iMax_n, iMin_n, zO_0, zO_1, li_0, li_1, li_2, li_3, li_4, li_5, li_6, li_7, li_8, li_9, li_10, li_12, li_14, li_15, li_16, li_18, li_19, li_20, li_22, li_23, li_24, li_26, li_29, li_30, li_31, li_32, li_36, li_38, li_48, li_50, li_57, li_58, li_59, li_60, li_63, li_97, li_99, li_120, li_122, li_144, li_168, li_194, li_240, li_255, li_284, li_299, li_603, li_999, li_1200, li_1440, li_4095, li_4096, li_6030, li_16384, li_20160, zl0, zl1, zl2, zl3, zl4, ze01, ze02, ze03, ze04, ze10, ze12, ze13, ze14, ze20, ze21, ze23, ze24, ze30, ze31, ze32, ze34, ze40, ze41, ze42, ze43, zt0, zt1, zt2, zt3, zt4, zq0, zq1, zq2, zq3, zq4, it_t, it_f, Bool.true_eq_false, Bool.false_eq_true, na5, na4, na1441, na2, na10, sx_IOIA, sx_IOIS, sx_IONS, sx_IAIO, sx_IAIS, sx_IANS, sx_ISIO, sx_ISIA, sx_ISNS, sx_NSIO, sx_NSIA, sx_NSIS]
        exact next c hc (by omega)
    · have z0 : (0 : Nat) ≤ 0 := Nat.le_refl 0
      simp (maxSteps := 3000000) (disch := first | assumption | omega | exact hR.all _) only [m_X10_firstRested_L22, bO_v, bR_v, bX_l, bX_r, bC_l, bC_r, aJ_v, aLet_v, nI_add, pk_mul, dvI_n, rmI_n, iMax_n, iMin_n, zO_0, zO_1, li_0, li_1, li_2, li_3, li_4, li_5, li_6, li_7, li_8, li_9, li_10, li_12, li_14, li_15, li_16, li_18, li_19, li_20, li_22, li_23, li_24, li_26, li_29, li_30, li_31, li_32, li_36, li_38, li_48, li_50, li_57, li_58, li_59, li_60, li_63, li_97, li_99, li_120, li_122, li_144, li_168, li_194, li_240, li_255, li_284, li_299, li_603, li_999, li_1200, li_1440, li_4095, li_4096, li_6030, li_16384, li_20160, zl0, zl1, zl2, zl3, zl4, ze01, ze02, ze03, ze04, ze10, ze12, ze13, ze14, ze20, ze21, ze23, ze24, ze30, ze31, ze32, ze34, ze40, ze41, ze42, ze43, zt0, zt1, zt2, zt3, zt4, zq0, zq1, zq2, zq3, zq4, it_t, it_f, Bool.true_eq_false, Bool.false_eq_true, na5, na4, na1441, na2, na10, sx_IOIA, sx_IOIS, sx_IONS, sx_IAIO, sx_IAIS, sx_IANS, sx_ISIO, sx_ISIA, sx_ISNS, sx_NSIO, sx_NSIA, sx_NSIS, nI_leI]
      rw [show S 0 + c + 1 = S 0 + F by omega]
      try rfl
  · have it : isT T S p = false := decide_eq_false c0
    rw [it] at kt
    simp (maxSteps := 3000000) (disch := first | assumption | omega | exact hR.all _) only [m_X10_firstRested, bO_v, bR_v, bX_l, bX_r, bC_l, bC_r, aJ_v, aLet_v, nI_add, pk_mul, dvI_n, rmI_n, iMax_n, iMin_n, zO_0, zO_1, li_0, li_1, li_2, li_3, li_4, li_5, li_6, li_7, li_8, li_9, li_10, li_12, li_14, li_15, li_16, li_18, li_19, li_20, li_22, li_23, li_24, li_26, li_29, li_30, li_31, li_32, li_36, li_38, li_48, li_50, li_57, li_58, li_59, li_60, li_63, li_97, li_99, li_120, li_122, li_144, li_168, li_194, li_240, li_255, li_284, li_299, li_603, li_999, li_1200, li_1440, li_4095, li_4096, li_6030, li_16384, li_20160, zl0, zl1, zl2, zl3, zl4, ze01, ze02, ze03, ze04, ze10, ze12, ze13, ze14, ze20, ze21, ze23, ze24, ze30, ze31, ze32, ze34, ze40, ze41, ze42, ze43, zt0, zt1, zt2, zt3, zt4, zq0, zq1, zq2, zq3, zq4, it_t, it_f, Bool.true_eq_false, Bool.false_eq_true, na5, na4, na1441, na2, na10, sx_IOIA, sx_IOIS, sx_IONS, sx_IAIO, sx_IAIS, sx_IANS, sx_ISIO, sx_ISIA, sx_ISNS, sx_NSIO, sx_NSIA, sx_NSIS, s_cS_gS hS ha, kt, s_cS_gi hS ha, x.tm, b2i_0]
    have : F = 0 := by
      by_cases e : F = 0
      · exact e
      · have := of_decide_eq_false (fn 0 (by omega))
        exact absurd this (by show ¬ ¬ S (2 + p) < T 418 3; omega)
    rw [this, Nat.add_zero]
theorem q_restedAt (I : IV h T P Q) (p : Int32) : QQ h T P Q (m_L_restedAt 1 p 462 h) (m_X12_restedAt 412 p) := by
  have hS := I.sh
  have hD := I.D
  have hR := I.R
  have hP := I.hP
  have y := I.y
  have d0 := hD.nP
  have d1 := hD.nG
  have d2 := hD.nE
  have d3 := hD.nK
  have d4 := hR.tm
  obtain ⟨a, ha, g5, x, -⟩ := I.st
  have tm2 := I.RB.2.2
  cases c : inr p (T 412 8)
  · refine ⟨1, 0, by decide, cq_exc ?_ (by decide), fun h1 I1 => ?_⟩
    · simp (maxSteps := 3000000) (disch := first | assumption | omega | exact hR.all _) only [m_L_restedAt, m_X11_restedAt, bO_v, bR_v, bX_l, bX_r, bC_l, bC_r, aJ_v, aLet_v, nI_add, pk_mul, dvI_n, rmI_n, iMax_n, iMin_n, zO_0, zO_1, li_0, li_1, li_2, li_3, li_4, li_5, li_6, li_7, li_8, li_9, li_10, li_12, li_14, li_15, li_16, li_18, li_19, li_20, li_22, li_23, li_24, li_26, li_29, li_30, li_31, li_32, li_36, li_38, li_48, li_50, li_57, li_58, li_59, li_60, li_63, li_97, li_99, li_120, li_122, li_144, li_168, li_194, li_240, li_255, li_284, li_299, li_603, li_999, li_1200, li_1440, li_4095, li_4096, li_6030, li_16384, li_20160, zl0, zl1, zl2, zl3, zl4, ze01, ze02, ze03, ze04, ze10, ze12, ze13, ze14, ze20, ze21, ze23, ze24, ze30, ze31, ze32, ze34, ze40, ze41, ze42, ze43, zt0, zt1, zt2, zt3, zt4, zq0, zq1, zq2, zq3, zq4, it_t, it_f, Bool.true_eq_false, Bool.false_eq_true, na5, na4, na1441, na2, na10, sx_IOIA, sx_IOIS, sx_IONS, sx_IAIO, sx_IAIS, sx_IANS, sx_ISIO, sx_ISIA, sx_ISNS, sx_NSIO, sx_NSIA, sx_NSIS, c_cX_gS hS, c_cX_gi hS, c_pmu hS, c_co_as hS, s_cS_gi hS ha, s_cS_gL hS ha, s_cS_pi hS ha, s_cS_pL hS ha, s_cS_gS hS ha, s_clost_al hS ha, s_clost_as hS ha, s_clost_ln hS ha, s_cout_al hS ha, s_cout_as hS ha, s_cout_ln hS ha, s_cpaid_al hS ha, s_cpaid_as hS ha, s_cpaid_ln hS ha, s_ctrust_al hS ha, s_ctrust_as hS ha, s_ctrust_ln hS ha, s_crot_al hS ha, s_crot_as hS ha, s_crot_ln hS ha, s_chands_al hS ha, s_chands_as hS ha, s_chands_ln hS ha, s_cto_al hS ha, s_cto_as hS ha, s_cto_ln hS ha, s_cends_al hS ha, s_cends_as hS ha, s_cends_ln hS ha, s_cret_al hS ha, s_cret_as hS ha, s_cret_ln hS ha, s_ccrew_al hS ha, s_ccrew_as hS ha, s_ccrew_ln hS ha, s_cL_gi hS ha, s_cL_gL hS ha, s_cL_pi hS ha, s_cL_pL hS ha, s_cL_gS hS ha, s_clcosts_al hS ha, s_clcosts_as hS ha, s_clcosts_ln hS ha, s_clcomers_al hS ha, s_clcomers_as hS ha, s_clcomers_ln hS ha, s_clleavers_al hS ha, s_clleavers_as hS ha, s_clleavers_ln hS ha, s_clengs_al hS ha, s_clengs_as hS ha, s_clengs_ln hS ha, s_cltimes_al hS ha, s_cltimes_as hS ha, s_cltimes_ln hS ha, s_clcrews_al hS ha, s_clcrews_as hS ha, s_clcrews_ln hS ha, s_cbest_al hS ha, s_cbest_as hS ha, s_cbest_ln hS ha, s_plost hS ha, s_pout hS ha, s_ppaid hS ha, s_ptrust hS ha, s_prot hS ha, s_phands hS ha, s_pto hS ha, s_pends hS ha, s_pret hS ha, s_pcrew hS ha, s_plog hS ha, s_plcosts hS ha, s_plcomers hS ha, s_plleavers hS ha, s_plengs hS ha, s_pltimes hS ha, s_plcrews hS ha, s_pbest hS ha, p_cP_gi hS hP, p_cP_gL hS hP, p_cP_pi hS hP, p_cP_pL hS hP, p_cP_gS hS hP, p_cN_gi hS hP, p_cN_gL hS hP, p_cN_pi hS hP, p_cN_pL hS hP, p_cN_gS hS hP, p_cps_ln hS hP, p_ctr_al hS hP, p_ctr_as hS hP, p_ctr_ln hS hP, p_cgs_ln hS hP, p_ces_ln hS hP, p_cks_ln hS hP, p_cable_al hS hP, p_cable_as hS hP, p_cable_ln hS hP, p_pN hS hP, p_pps hS hP, p_ptr hS hP, p_pgs hS hP, p_pes hS hP, p_pks hS hP, p_pable hS hP, p_ep_al hS hP, p_ep_gi hS hP, p_ep_gL hS hP, p_ep_pi hS hP, p_ep_pL hS hP, p_ep_gS hS hP, p_eg_al hS hP, p_eg_gi hS hP, p_eg_gL hS hP, p_eg_pi hS hP, p_eg_pL hS hP, p_eg_gS hS hP, p_egr_p hS hP, p_egr_al hS hP, p_egr_as hS hP, p_egr_ln hS hP, p_ee_al hS hP, p_ee_gi hS hP, p_ee_gL hS hP, p_ee_pi hS hP, p_ee_pL hS hP, p_ee_gS hS hP, p_ees_p hS hP, p_ees_al hS hP, p_ees_as hS hP, p_ees_ln hS hP, p_eed_p hS hP, p_eed_al hS hP, p_eed_as hS hP, p_eed_ln hS hP, p_ek_al hS hP, p_ek_gi hS hP, p_ek_gL hS hP, p_ek_pi hS hP, p_ek_pL hS hP, p_ek_gS hS hP, p_ekg_p hS hP, p_ekg_al hS hP, p_ekg_as hS hP, p_ekg_ln hS hP, p_eke_p hS hP, p_eke_al hS hP, p_eke_as hS hP, p_eke_ln hS hP, g5, I.g3, b2i_0, I.needPerson, I.needPager, I.needEngine, I.needKind, I.needCall, I.needTwo, c]
    · have S1 := I1.sh
      refine rq_exc (w := nI 0) ?_ (by decide)
      simp (maxSteps := 3000000) (disch := first | assumption | omega | exact hR.all _) only [m_X12_restedAt, bO_v, bR_v, bX_l, bX_r, bC_l, bC_r, aJ_v, aLet_v, nI_add, pk_mul, dvI_n, rmI_n, iMax_n, iMin_n, zO_0, zO_1, li_0, li_1, li_2, li_3, li_4, li_5, li_6, li_7, li_8, li_9, li_10, li_12, li_14, li_15, li_16, li_18, li_19, li_20, li_22, li_23, li_24, li_26, li_29, li_30, li_31, li_32, li_36, li_38, li_48, li_50, li_57, li_58, li_59, li_60, li_63, li_97, li_99, li_120, li_122, li_144, li_168, li_194, li_240, li_255, li_284, li_299, li_603, li_999, li_1200, li_1440, li_4095, li_4096, li_6030, li_16384, li_20160, zl0, zl1, zl2, zl3, zl4, ze01, ze02, ze03, ze04, ze10, ze12, ze13, ze14, ze20, ze21, ze23, ze24, ze30, ze31, ze32, ze34, ze40, ze41, ze42, ze43, zt0, zt1, zt2, zt3, zt4, zq0, zq1, zq2, zq3, zq4, it_t, it_f, Bool.true_eq_false, Bool.false_eq_true, na5, na4, na1441, na2, na10, sx_IOIA, sx_IOIS, sx_IONS, sx_IAIO, sx_IAIS, sx_IANS, sx_ISIO, sx_ISIA, sx_ISNS, sx_NSIO, sx_NSIA, sx_NSIS, r_cM_gS S1, r_cM_pi S1, rz_gi S1, r_p413 S1, r_c413_al S1, r_isPerson S1 I1.z hD, r_isPager S1 I1.z hD, r_isKind S1 I1.z hD, r_isCouple S1 I1.z hD, b2i_0, nI_leI, c]
  · obtain ⟨p, hp, rfl⟩ := inr_t c (by omega)
    have fl := fa_first_le (fun k => decide (lostK (T 418 0) (T 418 1) (T 413 (14 + p)) (T 413 (2 + p)) (T 413 0) k < T 418 3)) (20161 - T 413 0)
    have fn := fa_first_no (fun k => decide (lostK (T 418 0) (T 418 1) (T 413 (14 + p)) (T 413 (2 + p)) (T 413 0) k < T 418 3)) (20161 - T 413 0)
    have fy := fa_first_yes (fun k => decide (lostK (T 418 0) (T 418 1) (T 413 (14 + p)) (T 413 (2 + p)) (T 413 0) k < T 418 3)) (20161 - T 413 0)
    have kf := k_firstRested hS ha hP x y hD hR tm2 hp
    unfold rstF at kf
    generalize hF : fa_first (fun k => decide (lostK (T 418 0) (T 418 1) (T 413 (14 + p)) (T 413 (2 + p)) (T 413 0) k < T 418 3)) (20161 - T 413 0) = F at *
    refine ⟨if T 413 0 + F ≤ 20160 then 0 else 2, nI (T 413 0 + F), by split <;> decide, ?_, fun h1 I1 => ?_⟩
    · by_cases c3 : T 413 0 + F ≤ 20160
      · rw [if_pos c3]
        refine cq_val ?_
        simp (maxSteps := 3000000) (disch := first | assumption | omega | exact hR.all _) only [m_L_restedAt, m_X11_restedAt, bO_v, bR_v, bX_l, bX_r, bC_l, bC_r, aJ_v, aLet_v, nI_add, pk_mul, dvI_n, rmI_n, iMax_n, iMin_n, zO_0, zO_1, li_0, li_1, li_2, li_3, li_4, li_5, li_6, li_7, li_8, li_9, li_10, li_12, li_14, li_15, li_16, li_18, li_19, li_20, li_22, li_23, li_24, li_26, li_29, li_30, li_31, li_32, li_36, li_38, li_48, li_50, li_57, li_58, li_59, li_60, li_63, li_97, li_99, li_120, li_122, li_144, li_168, li_194, li_240, li_255, li_284, li_299, li_603, li_999, li_1200, li_1440, li_4095, li_4096, li_6030, li_16384, li_20160, zl0, zl1, zl2, zl3, zl4, ze01, ze02, ze03, ze04, ze10, ze12, ze13, ze14, ze20, ze21, ze23, ze24, ze30, ze31, ze32, ze34, ze40, ze41, ze42, ze43, zt0, zt1, zt2, zt3, zt4, zq0, zq1, zq2, zq3, zq4, it_t, it_f, Bool.true_eq_false, Bool.false_eq_true, na5, na4, na1441, na2, na10, sx_IOIA, sx_IOIS, sx_IONS, sx_IAIO, sx_IAIS, sx_IANS, sx_ISIO, sx_ISIA, sx_ISNS, sx_NSIO, sx_NSIA, sx_NSIS, c_cX_gS hS, c_cX_gi hS, c_pmu hS, c_co_as hS, s_cS_gi hS ha, s_cS_gL hS ha, s_cS_pi hS ha, s_cS_pL hS ha, s_cS_gS hS ha, s_clost_al hS ha, s_clost_as hS ha, s_clost_ln hS ha, s_cout_al hS ha, s_cout_as hS ha, s_cout_ln hS ha, s_cpaid_al hS ha, s_cpaid_as hS ha, s_cpaid_ln hS ha, s_ctrust_al hS ha, s_ctrust_as hS ha, s_ctrust_ln hS ha, s_crot_al hS ha, s_crot_as hS ha, s_crot_ln hS ha, s_chands_al hS ha, s_chands_as hS ha, s_chands_ln hS ha, s_cto_al hS ha, s_cto_as hS ha, s_cto_ln hS ha, s_cends_al hS ha, s_cends_as hS ha, s_cends_ln hS ha, s_cret_al hS ha, s_cret_as hS ha, s_cret_ln hS ha, s_ccrew_al hS ha, s_ccrew_as hS ha, s_ccrew_ln hS ha, s_cL_gi hS ha, s_cL_gL hS ha, s_cL_pi hS ha, s_cL_pL hS ha, s_cL_gS hS ha, s_clcosts_al hS ha, s_clcosts_as hS ha, s_clcosts_ln hS ha, s_clcomers_al hS ha, s_clcomers_as hS ha, s_clcomers_ln hS ha, s_clleavers_al hS ha, s_clleavers_as hS ha, s_clleavers_ln hS ha, s_clengs_al hS ha, s_clengs_as hS ha, s_clengs_ln hS ha, s_cltimes_al hS ha, s_cltimes_as hS ha, s_cltimes_ln hS ha, s_clcrews_al hS ha, s_clcrews_as hS ha, s_clcrews_ln hS ha, s_cbest_al hS ha, s_cbest_as hS ha, s_cbest_ln hS ha, s_plost hS ha, s_pout hS ha, s_ppaid hS ha, s_ptrust hS ha, s_prot hS ha, s_phands hS ha, s_pto hS ha, s_pends hS ha, s_pret hS ha, s_pcrew hS ha, s_plog hS ha, s_plcosts hS ha, s_plcomers hS ha, s_plleavers hS ha, s_plengs hS ha, s_pltimes hS ha, s_plcrews hS ha, s_pbest hS ha, p_cP_gi hS hP, p_cP_gL hS hP, p_cP_pi hS hP, p_cP_pL hS hP, p_cP_gS hS hP, p_cN_gi hS hP, p_cN_gL hS hP, p_cN_pi hS hP, p_cN_pL hS hP, p_cN_gS hS hP, p_cps_ln hS hP, p_ctr_al hS hP, p_ctr_as hS hP, p_ctr_ln hS hP, p_cgs_ln hS hP, p_ces_ln hS hP, p_cks_ln hS hP, p_cable_al hS hP, p_cable_as hS hP, p_cable_ln hS hP, p_pN hS hP, p_pps hS hP, p_ptr hS hP, p_pgs hS hP, p_pes hS hP, p_pks hS hP, p_pable hS hP, p_ep_al hS hP, p_ep_gi hS hP, p_ep_gL hS hP, p_ep_pi hS hP, p_ep_pL hS hP, p_ep_gS hS hP, p_eg_al hS hP, p_eg_gi hS hP, p_eg_gL hS hP, p_eg_pi hS hP, p_eg_pL hS hP, p_eg_gS hS hP, p_egr_p hS hP, p_egr_al hS hP, p_egr_as hS hP, p_egr_ln hS hP, p_ee_al hS hP, p_ee_gi hS hP, p_ee_gL hS hP, p_ee_pi hS hP, p_ee_pL hS hP, p_ee_gS hS hP, p_ees_p hS hP, p_ees_al hS hP, p_ees_as hS hP, p_ees_ln hS hP, p_eed_p hS hP, p_eed_al hS hP, p_eed_as hS hP, p_eed_ln hS hP, p_ek_al hS hP, p_ek_gi hS hP, p_ek_gL hS hP, p_ek_pi hS hP, p_ek_pL hS hP, p_ek_gS hS hP, p_ekg_p hS hP, p_ekg_al hS hP, p_ekg_as hS hP, p_ekg_ln hS hP, p_eke_p hS hP, p_eke_al hS hP, p_eke_as hS hP, p_eke_ln hS hP, g5, I.g3, b2i_0, I.needPerson, I.needPager, I.needEngine, I.needKind, I.needCall, I.needTwo, c, kf, nI_leI, c3]
      · rw [if_neg c3]
        refine cq_exc ?_ (by decide)
        simp (maxSteps := 3000000) (disch := first | assumption | omega | exact hR.all _) only [m_L_restedAt, m_X11_restedAt, bO_v, bR_v, bX_l, bX_r, bC_l, bC_r, aJ_v, aLet_v, nI_add, pk_mul, dvI_n, rmI_n, iMax_n, iMin_n, zO_0, zO_1, li_0, li_1, li_2, li_3, li_4, li_5, li_6, li_7, li_8, li_9, li_10, li_12, li_14, li_15, li_16, li_18, li_19, li_20, li_22, li_23, li_24, li_26, li_29, li_30, li_31, li_32, li_36, li_38, li_48, li_50, li_57, li_58, li_59, li_60, li_63, li_97, li_99, li_120, li_122, li_144, li_168, li_194, li_240, li_255, li_284, li_299, li_603, li_999, li_1200, li_1440, li_4095, li_4096, li_6030, li_16384, li_20160, zl0, zl1, zl2, zl3, zl4, ze01, ze02, ze03, ze04, ze10, ze12, ze13, ze14, ze20, ze21, ze23, ze24, ze30, ze31, ze32, ze34, ze40, ze41, ze42, ze43, zt0, zt1, zt2, zt3, zt4, zq0, zq1, zq2, zq3, zq4, it_t, it_f, Bool.true_eq_false, Bool.false_eq_true, na5, na4, na1441, na2, na10, sx_IOIA, sx_IOIS, sx_IONS, sx_IAIO, sx_IAIS, sx_IANS, sx_ISIO, sx_ISIA, sx_ISNS, sx_NSIO, sx_NSIA, sx_NSIS, c_cX_gS hS, c_cX_gi hS, c_pmu hS, c_co_as hS, s_cS_gi hS ha, s_cS_gL hS ha, s_cS_pi hS ha, s_cS_pL hS ha, s_cS_gS hS ha, s_clost_al hS ha, s_clost_as hS ha, s_clost_ln hS ha, s_cout_al hS ha, s_cout_as hS ha, s_cout_ln hS ha, s_cpaid_al hS ha, s_cpaid_as hS ha, s_cpaid_ln hS ha, s_ctrust_al hS ha, s_ctrust_as hS ha, s_ctrust_ln hS ha, s_crot_al hS ha, s_crot_as hS ha, s_crot_ln hS ha, s_chands_al hS ha, s_chands_as hS ha, s_chands_ln hS ha, s_cto_al hS ha, s_cto_as hS ha, s_cto_ln hS ha, s_cends_al hS ha, s_cends_as hS ha, s_cends_ln hS ha, s_cret_al hS ha, s_cret_as hS ha, s_cret_ln hS ha, s_ccrew_al hS ha, s_ccrew_as hS ha, s_ccrew_ln hS ha, s_cL_gi hS ha, s_cL_gL hS ha, s_cL_pi hS ha, s_cL_pL hS ha, s_cL_gS hS ha, s_clcosts_al hS ha, s_clcosts_as hS ha, s_clcosts_ln hS ha, s_clcomers_al hS ha, s_clcomers_as hS ha, s_clcomers_ln hS ha, s_clleavers_al hS ha, s_clleavers_as hS ha, s_clleavers_ln hS ha, s_clengs_al hS ha, s_clengs_as hS ha, s_clengs_ln hS ha, s_cltimes_al hS ha, s_cltimes_as hS ha, s_cltimes_ln hS ha, s_clcrews_al hS ha, s_clcrews_as hS ha, s_clcrews_ln hS ha, s_cbest_al hS ha, s_cbest_as hS ha, s_cbest_ln hS ha, s_plost hS ha, s_pout hS ha, s_ppaid hS ha, s_ptrust hS ha, s_prot hS ha, s_phands hS ha, s_pto hS ha, s_pends hS ha, s_pret hS ha, s_pcrew hS ha, s_plog hS ha, s_plcosts hS ha, s_plcomers hS ha, s_plleavers hS ha, s_plengs hS ha, s_pltimes hS ha, s_plcrews hS ha, s_pbest hS ha, p_cP_gi hS hP, p_cP_gL hS hP, p_cP_pi hS hP, p_cP_pL hS hP, p_cP_gS hS hP, p_cN_gi hS hP, p_cN_gL hS hP, p_cN_pi hS hP, p_cN_pL hS hP, p_cN_gS hS hP, p_cps_ln hS hP, p_ctr_al hS hP, p_ctr_as hS hP, p_ctr_ln hS hP, p_cgs_ln hS hP, p_ces_ln hS hP, p_cks_ln hS hP, p_cable_al hS hP, p_cable_as hS hP, p_cable_ln hS hP, p_pN hS hP, p_pps hS hP, p_ptr hS hP, p_pgs hS hP, p_pes hS hP, p_pks hS hP, p_pable hS hP, p_ep_al hS hP, p_ep_gi hS hP, p_ep_gL hS hP, p_ep_pi hS hP, p_ep_pL hS hP, p_ep_gS hS hP, p_eg_al hS hP, p_eg_gi hS hP, p_eg_gL hS hP, p_eg_pi hS hP, p_eg_pL hS hP, p_eg_gS hS hP, p_egr_p hS hP, p_egr_al hS hP, p_egr_as hS hP, p_egr_ln hS hP, p_ee_al hS hP, p_ee_gi hS hP, p_ee_gL hS hP, p_ee_pi hS hP, p_ee_pL hS hP, p_ee_gS hS hP, p_ees_p hS hP, p_ees_al hS hP, p_ees_as hS hP, p_ees_ln hS hP, p_eed_p hS hP, p_eed_al hS hP, p_eed_as hS hP, p_eed_ln hS hP, p_ek_al hS hP, p_ek_gi hS hP, p_ek_gL hS hP, p_ek_pi hS hP, p_ek_pL hS hP, p_ek_gS hS hP, p_ekg_p hS hP, p_ekg_al hS hP, p_ekg_as hS hP, p_ekg_ln hS hP, p_eke_p hS hP, p_eke_al hS hP, p_eke_as hS hP, p_eke_ln hS hP, g5, I.g3, b2i_0, I.needPerson, I.needPager, I.needEngine, I.needKind, I.needCall, I.needTwo, c, kf, nI_leI, c3]
    · have S1 := I1.sh
      have S0 : Sh (h_si h1 412 0 (nI 0)) := S1.si _ _ _
      have z0 : RefR (h_si h1 412 0 (nI 0)) T := I1.z.rz
      simp (maxSteps := 3000000) (disch := first | assumption | omega | exact hR.all _) only [m_X12_restedAt, bO_v, bR_v, bX_l, bX_r, bC_l, bC_r, aLet_v, nI_add, pk_mul, dvI_n, rmI_n, iMax_n, iMin_n, zO_0, zO_1, li_0, li_1, li_2, li_3, li_4, li_5, li_6, li_7, li_8, li_9, li_10, li_12, li_14, li_15, li_16, li_18, li_19, li_20, li_22, li_23, li_24, li_26, li_29, li_30, li_31, li_32, li_36, li_38, li_48, li_50, li_57, li_58, li_59, li_60, li_63, li_97, li_99, li_120, li_122, li_144, li_168, li_194, li_240, li_255, li_284, li_299, li_603, li_999, li_1200, li_1440, li_4095, li_4096, li_6030, li_16384, li_20160, zl0, zl1, zl2, zl3, zl4, ze01, ze02, ze03, ze04, ze10, ze12, ze13, ze14, ze20, ze21, ze23, ze24, ze30, ze31, ze32, ze34, ze40, ze41, ze42, ze43, zt0, zt1, zt2, zt3, zt4, zq0, zq1, zq2, zq3, zq4, it_t, it_f, Bool.true_eq_false, Bool.false_eq_true, na5, na4, na1441, na2, na10, sx_IOIA, sx_IOIS, sx_IONS, sx_IAIO, sx_IAIS, sx_IANS, sx_ISIO, sx_ISIA, sx_ISNS, sx_NSIO, sx_NSIA, sx_NSIS, r_cM_gS S1, r_cM_pi S1, rz_gi S1, r_isPerson S1 I1.z hD, b2i_0, c, Bool.true_eq_false, aJ_v, r_cM_gS S0, nI_leI]
      have g0 : h_iv (h_si h1 412 0 (nI 0)) 412 0 = nI 0 := si_at
      have G : QF 0 h1 (h_si h1 412 0 (nI 0)) := QF.si (by unfold SQ; omega)
      have GL : h_lv (h_si h1 412 0 (nI 0)) = h_lv h1 := rfl
      generalize h_si h1 412 0 (nI 0) = h0 at S0 z0 g0 G GL ⊢
      refine ok_bR (r_lays S0) (fun _ h2 hh => ?_)
      obtain ⟨F2, v2⟩ := hh
      have S2 := F2.sh S0
      have z2 := z0.fr F2 (fun o q1 q2 q3 => q3)
      have d9 := hD.lim
      refine aL0_run (R := fun o => OK o _) (fun m h3 => ∃ i, i ≤ F ∧ T 413 0 + i ≤ 20160 ∧ m = F - i ∧ RW h2 h3 (itS T (T 413) i)) (m := F) ⟨0, Nat.zero_le _, by omega, rfl, Fr.rf, fun j => z2.c413 j⟩ (by omega) ?_
      rintro rec m h3 ⟨i, hi, hi2, rfl, R3⟩ ih
      have S3 := R3.1.sh S2
      have hRi := it_R hD hR i (by omega)
      have z3 : RefR h3 (setW T (itS T (T 413) i)) := R3.ref z2 hRi.all
      have el : itS T (T 413) i (2 + p) = lostK (T 418 0) (T 418 1) (T 413 (14 + p)) (T 413 (2 + p)) (T 413 0) i := it_lost hD hp i
      have lb := lostK_le (T 418 0) (T 418 1) (T 413 (14 + p)) (T 413 (2 + p)) (T 413 0) i
      have lb2 := hR.lost p hp
      have kt : ∀ h9, Fr (fun o => o = 412) h3 h9 → m_X12_isTired 412 (nI p) h9 = some (b2i (decide (T 418 3 ≤ itS T (T 413) i (2 + p))), h9) := fun h9 f9 => by
        have S9 := f9.sh S3
        have e1 : h_iv h9 413 (2 + p) = nI (itS T (T 413) i (2 + p)) := by rw [f9.iv (by decide)]; exact R3.2 _
        have e2 : h_iv h9 418 3 = nI (T 418 3) := by rw [f9.iv (by decide), R3.1.iv (by decide)]; exact z2.c418 3
        simp (maxSteps := 3000000) (disch := first | assumption | omega | exact hR.all _) only [m_X12_isTired, bO_v, bR_v, bX_l, bX_r, bC_l, bC_r, aJ_v, aLet_v, nI_add, pk_mul, dvI_n, rmI_n, iMax_n, iMin_n, zO_0, zO_1, li_0, li_1, li_2, li_3, li_4, li_5, li_6, li_7, li_8, li_9, li_10, li_12, li_14, li_15, li_16, li_18, li_19, li_20, li_22, li_23, li_24, li_26, li_29, li_30, li_31, li_32, li_36, li_38, li_48, li_50, li_57, li_58, li_59, li_60, li_63, li_97, li_99, li_120, li_122, li_144, li_168, li_194, li_240, li_255, li_284, li_299, li_603, li_999, li_1200, li_1440, li_4095, li_4096, li_6030, li_16384, li_20160, zl0, zl1, zl2, zl3, zl4, ze01, ze02, ze03, ze04, ze10, ze12, ze13, ze14, ze20, ze21, ze23, ze24, ze30, ze31, ze32, ze34, ze40, ze41, ze42, ze43, zt0, zt1, zt2, zt3, zt4, zq0, zq1, zq2, zq3, zq4, it_t, it_f, Bool.true_eq_false, Bool.false_eq_true, na5, na4, na1441, na2, na10, sx_IOIA, sx_IOIS, sx_IONS, sx_IAIO, sx_IAIS, sx_IANS, sx_ISIO, sx_ISIA, sx_ISNS, sx_NSIO, sx_NSIA, sx_NSIS, r_p413 S9, r_c413_al S9, r_p418 S9, r_c418_al S9, e1, e2, nI_ltI]
        by_cases c9 : itS T (T 413) i (2 + p) < T 418 3
        · rw [if_pos c9, b2i_f (decide_eq_false (by omega))]
        · rw [if_neg c9, b2i_t (decide_eq_true (by omega))]
      have e0 : h_iv h3 413 0 = nI (T 413 0 + i) := by rw [R3.2, it_tm]
      have stop : (i = F ∨ T 413 0 + i = 20160) → OK (bO (gr h3 12 412 1) fun x6 => bO (ali h3 1 x6 (nI 0)) fun x7 => gS h3 12 412 <| bR (m_X12_isTired 412 (nI p) h3) fun x8 h6 => if x8 = nI 0 then (bO (pi h6 12 412 0 (nI 0)) fun h8 => gS h8 12 412 <| bR (m_X12_takes 412 h8) fun _ h9 => bO (gi h9 12 412 0) fun x10 => if x10 ≤ nI 0 then some (x7, h9) else some (nI 0, h9)) else (bO (pi h6 12 412 0 (nI 2)) fun h8 => gS h8 12 412 <| bR (m_X12_takes 412 h8) fun _ h9 => bO (gi h9 12 412 0) fun x10 => if x10 ≤ nI 0 then some (x7, h9) else some (nI 0, h9))) (fun r h9 => QF 0 h1 h9 ∧ h_lv h9 = h_lv h1 ∧ h_iv h9 412 0 = nI (if T 413 0 + F ≤ 20160 then 0 else 2) ∧ ((if T 413 0 + F ≤ 20160 then 0 else 2) = 0 → r = nI (T 413 0 + F))) := fun hst => by
        have tk : ∀ v, OK (m_X12_takes 412 (h_si h3 412 0 (nI v))) (fun _ h9 => Sh h9 ∧ QF 0 h1 h9 ∧ h_lv h9 = h_lv h1 ∧ h_iv h9 412 0 = nI v) := fun v => by
          have S4 : Sh (h_si h3 412 0 (nI v)) := S3.si _ _ _
          refine ok_mono (r_takes S4) (fun _ h9 hh => ?_)
          obtain ⟨F9, v9⟩ := hh
          have F9' : Fr (fun o => o = 413 ∨ o = 412) h3 h9 := (Fr.si (Or.inr rfl)).trans (F9.mono (fun o q => Or.inl q))
          have f : Fr (fun o => o = 416 ∨ o = 413 ∨ o = 412) h0 h9 := (F2.mono (fun o q => Or.inl q)).trans ((R3.1.mono (fun o q => Or.inr (Or.inl q))).trans (F9'.mono (fun o q => Or.inr q)))
          have g1 : h_iv h9 412 0 = nI v := by rw [F9.iv (by decide), si_at]
          refine ⟨F9.sh S4, G.trans (d := 0) ?_, by rw [f.2.2.2.2.2.1, GL], g1⟩
          obtain ⟨f1, f2, f3, f4, f5, f6, f7⟩ := f
          refine QF.fx (A := SQ) ⟨f1, f2, f3, f4, f5, f6, fun o k ho => ?_⟩ (fun _ _ q => q)
          by_cases e9 : o = 413
          · subst e9
            rw [v9 k]
            by_cases c9 : k < 603
            · rw [if_pos c9, si_ne (by omega), R3.1.iv (by decide), v2 k c9]
            · rw [if_neg c9, si_ne (by omega), R3.2 k, it_st hD (by omega), z0.c413]
          · by_cases e8 : o = 412
            · subst e8
              rw [F9.iv (by decide), si_ne (by unfold SQ at ho; omega), R3.1.iv (by decide), F2.iv (by decide)]
            · rw [f7 o (fun q => by unfold SQ at ho; omega)]
        simp (maxSteps := 3000000) (disch := first | assumption | omega | exact hR.all _) only [bO_v, bR_v, bX_l, bX_r, bC_l, bC_r, aLet_v, nI_add, pk_mul, dvI_n, rmI_n, iMax_n, iMin_n, zO_0, zO_1, li_0, li_1, li_2, li_3, li_4, li_5, li_6, li_7, li_8, li_9, li_10, li_12, li_14, li_15, li_16, li_18, li_19, li_20, li_22, li_23, li_24, li_26, li_29, li_30, li_31, li_32, li_36, li_38, li_48, li_50, li_57, li_58, li_59, li_60, li_63, li_97, li_99, li_120, li_122, li_144, li_168, li_194, li_240, li_255, li_284, li_299, li_603, li_999, li_1200, li_1440, li_4095, li_4096, li_6030, li_16384, li_20160, zl0, zl1, zl2, zl3, zl4, ze01, ze02, ze03, ze04, ze10, ze12, ze13, ze14, ze20, ze21, ze23, ze24, ze30, ze31, ze32, ze34, ze40, ze41, ze42, ze43, zt0, zt1, zt2, zt3, zt4, zq0, zq1, zq2, zq3, zq4, it_t, it_f, Bool.true_eq_false, Bool.false_eq_true, na5, na4, na1441, na2, na10, sx_IOIA, sx_IOIS, sx_IONS, sx_IAIO, sx_IAIS, sx_IANS, sx_ISIO, sx_ISIA, sx_ISNS, sx_NSIO, sx_NSIA, sx_NSIS, r_p413 S3, r_c413_al S3, e0, r_cM_gS S3, kt h3 Fr.rf, b2i_0]
        by_cases ct : T 418 3 ≤ itS T (T 413) i (2 + p)
        · have hx : ¬ T 413 0 + F ≤ 20160 := fun q => by
            rcases hst with e | e
            · have := of_decide_eq_true (fy (by omega))
              rw [← e, ← el] at this
              omega
            · have e9 : i = F := by omega
              have := of_decide_eq_true (fy (by omega))
              rw [← e9, ← el] at this
              omega
          rw [if_neg (by rw [decide_eq_true ct]; decide), if_neg hx]
          simp (maxSteps := 3000000) (disch := first | assumption | omega | exact hR.all _) only [bO_v, bR_v, bX_l, bX_r, bC_l, bC_r, aLet_v, nI_add, pk_mul, dvI_n, rmI_n, iMax_n, iMin_n, zO_0, zO_1, li_0, li_1, li_2, li_3, li_4, li_5, li_6, li_7, li_8, li_9, li_10, li_12, li_14, li_15, li_16, li_18, li_19, li_20, li_22, li_23, li_24, li_26, li_29, li_30, li_31, li_32, li_36, li_38, li_48, li_50, li_57, li_58, li_59, li_60, li_63, li_97, li_99, li_120, li_122, li_144, li_168, li_194, li_240, li_255, li_284, li_299, li_603, li_999, li_1200, li_1440, li_4095, li_4096, li_6030, li_16384, li_20160, zl0, zl1, zl2, zl3, zl4, ze01, ze02, ze03, ze04, ze10, ze12, ze13, ze14, ze20, ze21, ze23, ze24, ze30, ze31, ze32, ze34, ze40, ze41, ze42, ze43, zt0, zt1, zt2, zt3, zt4, zq0, zq1, zq2, zq3, zq4, it_t, it_f, Bool.true_eq_false, Bool.false_eq_true, na5, na4, na1441, na2, na10, sx_IOIA, sx_IOIS, sx_IONS, sx_IAIO, sx_IAIS, sx_IANS, sx_ISIO, sx_ISIA, sx_ISNS, sx_NSIO, sx_NSIA, sx_NSIS, r_cM_pi S3, r_cM_gS (S3.si 412 0 (nI 2))]
          refine ok_bR (tk 2) (fun _ h9 hh => ?_)
          obtain ⟨S9, q1, q2, q3⟩ := hh
          simp (maxSteps := 3000000) (disch := first | assumption | omega | exact hR.all _) only [bO_v, bR_v, bX_l, bX_r, bC_l, bC_r, aLet_v, nI_add, pk_mul, dvI_n, rmI_n, iMax_n, iMin_n, zO_0, zO_1, li_0, li_1, li_2, li_3, li_4, li_5, li_6, li_7, li_8, li_9, li_10, li_12, li_14, li_15, li_16, li_18, li_19, li_20, li_22, li_23, li_24, li_26, li_29, li_30, li_31, li_32, li_36, li_38, li_48, li_50, li_57, li_58, li_59, li_60, li_63, li_97, li_99, li_120, li_122, li_144, li_168, li_194, li_240, li_255, li_284, li_299, li_603, li_999, li_1200, li_1440, li_4095, li_4096, li_6030, li_16384, li_20160, zl0, zl1, zl2, zl3, zl4, ze01, ze02, ze03, ze04, ze10, ze12, ze13, ze14, ze20, ze21, ze23, ze24, ze30, ze31, ze32, ze34, ze40, ze41, ze42, ze43, zt0, zt1, zt2, zt3, zt4, zq0, zq1, zq2, zq3, zq4, it_t, it_f, Bool.true_eq_false, Bool.false_eq_true, na5, na4, na1441, na2, na10, sx_IOIA, sx_IOIS, sx_IONS, sx_IAIO, sx_IAIS, sx_IANS, sx_ISIO, sx_ISIA, sx_ISNS, sx_NSIO, sx_NSIA, sx_NSIS, r_cM_gi S9, q3]
          rw [if_neg (by decide)]
          exact ok_ret ⟨q1, q2, q3, fun q => absurd q (by decide)⟩
        · have e9 : i = F := by
            by_cases e9 : i = F
            · exact e9
            · have := of_decide_eq_false (fn i (by omega))
              rw [← el] at this
              omega
          rw [if_pos (decide_eq_false ct), if_pos (show T 413 0 + F ≤ 20160 by omega)]
          simp (maxSteps := 3000000) (disch := first | assumption | omega | exact hR.all _) only [bO_v, bR_v, bX_l, bX_r, bC_l, bC_r, aLet_v, nI_add, pk_mul, dvI_n, rmI_n, iMax_n, iMin_n, zO_0, zO_1, li_0, li_1, li_2, li_3, li_4, li_5, li_6, li_7, li_8, li_9, li_10, li_12, li_14, li_15, li_16, li_18, li_19, li_20, li_22, li_23, li_24, li_26, li_29, li_30, li_31, li_32, li_36, li_38, li_48, li_50, li_57, li_58, li_59, li_60, li_63, li_97, li_99, li_120, li_122, li_144, li_168, li_194, li_240, li_255, li_284, li_299, li_603, li_999, li_1200, li_1440, li_4095, li_4096, li_6030, li_16384, li_20160, zl0, zl1, zl2, zl3, zl4, ze01, ze02, ze03, ze04, ze10, ze12, ze13, ze14, ze20, ze21, ze23, ze24, ze30, ze31, ze32, ze34, ze40, ze41, ze42, ze43, zt0, zt1, zt2, zt3, zt4, zq0, zq1, zq2, zq3, zq4, it_t, it_f, Bool.true_eq_false, Bool.false_eq_true, na5, na4, na1441, na2, na10, sx_IOIA, sx_IOIS, sx_IONS, sx_IAIO, sx_IAIS, sx_IANS, sx_ISIO, sx_ISIA, sx_ISNS, sx_NSIO, sx_NSIA, sx_NSIS, r_cM_pi S3, r_cM_gS (S3.si 412 0 (nI 0))]
          refine ok_bR (tk 0) (fun _ h9 hh => ?_)
          obtain ⟨S9, q1, q2, q3⟩ := hh
          simp (maxSteps := 3000000) (disch := first | assumption | omega | exact hR.all _) only [bO_v, bR_v, bX_l, bX_r, bC_l, bC_r, aLet_v, nI_add, pk_mul, dvI_n, rmI_n, iMax_n, iMin_n, zO_0, zO_1, li_0, li_1, li_2, li_3, li_4, li_5, li_6, li_7, li_8, li_9, li_10, li_12, li_14, li_15, li_16, li_18, li_19, li_20, li_22, li_23, li_24, li_26, li_29, li_30, li_31, li_32, li_36, li_38, li_48, li_50, li_57, li_58, li_59, li_60, li_63, li_97, li_99, li_120, li_122, li_144, li_168, li_194, li_240, li_255, li_284, li_299, li_603, li_999, li_1200, li_1440, li_4095, li_4096, li_6030, li_16384, li_20160, zl0, zl1, zl2, zl3, zl4, ze01, ze02, ze03, ze04, ze10, ze12, ze13, ze14, ze20, ze21, ze23, ze24, ze30, ze31, ze32, ze34, ze40, ze41, ze42, ze43, zt0, zt1, zt2, zt3, zt4, zq0, zq1, zq2, zq3, zq4, it_t, it_f, Bool.true_eq_false, Bool.false_eq_true, na5, na4, na1441, na2, na10, sx_IOIA, sx_IOIS, sx_IONS, sx_IAIO, sx_IAIS, sx_IANS, sx_ISIO, sx_ISIA, sx_ISNS, sx_NSIO, sx_NSIA, sx_NSIS, r_cM_gi S9, q3]
          rw [if_pos (by decide)]
          exact ok_ret ⟨q1, q2, q3, fun _ => by rw [e9]⟩
      by_cases ct : T 418 3 ≤ itS T (T 413) i (2 + p)
      · by_cases c9 : T 413 0 + i < 20160
        · simp (maxSteps := 3000000) (disch := first | assumption | omega | exact hR.all _) only [m_X12_restedAt_L30, bO_v, bR_v, bX_l, bX_r, bC_l, bC_r, aLet_v, nI_add, pk_mul, dvI_n, rmI_n, iMax_n, iMin_n, zO_0, zO_1, li_0, li_1, li_2, li_3, li_4, li_5, li_6, li_7, li_8, li_9, li_10, li_12, li_14, li_15, li_16, li_18, li_19, li_20, li_22, li_23, li_24, li_26, li_29, li_30, li_31, li_32, li_36, li_38, li_48, li_50, li_57, li_58, li_59, li_60, li_63, li_97, li_99, li_120, li_122, li_144, li_168, li_194, li_240, li_255, li_284, li_299, li_603, li_999, li_1200, li_1440, li_4095, li_4096, li_6030, li_16384, li_20160, zl0, zl1, zl2, zl3, zl4, ze01, ze02, ze03, ze04, ze10, ze12, ze13, ze14, ze20, ze21, ze23, ze24, ze30, ze31, ze32, ze34, ze40, ze41, ze42, ze43, zt0, zt1, zt2, zt3, zt4, zq0, zq1, zq2, zq3, zq4, it_t, it_f, Bool.true_eq_false, Bool.false_eq_true, na5, na4, na1441, na2, na10, sx_IOIA, sx_IOIS, sx_IONS, sx_IAIO, sx_IAIS, sx_IANS, sx_ISIO, sx_ISIA, sx_ISNS, sx_NSIO, sx_NSIA, sx_NSIS, r_cM_gS S3, kt h3 Fr.rf, b2i_0, decide_eq_true ct, Bool.true_eq_false, r_p413 S3, r_c413_al S3, e0, nI_ltI, c9]
          refine ok_bR (r_minI S2 z2 hD hR (by omega) R3) (fun r h4 hh => ?_)
          have : i ≠ F := fun e9 => by
            have := of_decide_eq_true (fy (by omega))
            rw [← e9, ← el] at this
            omega
          exact ih (F - (i + 1)) _ (by omega) ⟨i + 1, by omega, by omega, rfl, hh.2⟩
        · have hst := stop (Or.inr (by omega))
          simp (maxSteps := 3000000) (disch := first | assumption | omega | exact hR.all _) only [m_X12_restedAt_L30, bO_v, bR_v, bX_l, bX_r, bC_l, bC_r, aLet_v, nI_add, pk_mul, dvI_n, rmI_n, iMax_n, iMin_n, zO_0, zO_1, li_0, li_1, li_2, li_3, li_4, li_5, li_6, li_7, li_8, li_9, li_10, li_12, li_14, li_15, li_16, li_18, li_19, li_20, li_22, li_23, li_24, li_26, li_29, li_30, li_31, li_32, li_36, li_38, li_48, li_50, li_57, li_58, li_59, li_60, li_63, li_97, li_99, li_120, li_122, li_144, li_168, li_194, li_240, li_255, li_284, li_299, li_603, li_999, li_1200, li_1440, li_4095, li_4096, li_6030, li_16384, li_20160, zl0, zl1, zl2, zl3, zl4, ze01, ze02, ze03, ze04, ze10, ze12, ze13, ze14, ze20, ze21, ze23, ze24, ze30, ze31, ze32, ze34, ze40, ze41, ze42, ze43, zt0, zt1, zt2, zt3, zt4, zq0, zq1, zq2, zq3, zq4, it_t, it_f, Bool.true_eq_false, Bool.false_eq_true, na5, na4, na1441, na2, na10, sx_IOIA, sx_IOIS, sx_IONS, sx_IAIO, sx_IAIS, sx_IANS, sx_ISIO, sx_ISIA, sx_ISNS, sx_NSIO, sx_NSIA, sx_NSIS, r_cM_gS S3, kt h3 Fr.rf, b2i_0, decide_eq_true ct, Bool.true_eq_false, r_p413 S3, r_c413_al S3, e0, nI_ltI, c9, aJ_v] at hst ⊢
          exact hst
      · have e9 : i = F := by
          by_cases e9 : i = F
          · exact e9
          · have := of_decide_eq_false (fn i (by omega))
            rw [← el] at this
            omega
        have hst := stop (Or.inl e9)
        simp (maxSteps := 3000000) (disch := first | assumption | omega | exact hR.all _) only [m_X12_restedAt_L30, bO_v, bR_v, bX_l, bX_r, bC_l, bC_r, aLet_v, nI_add, pk_mul, dvI_n, rmI_n, iMax_n, iMin_n, zO_0, zO_1, li_0, li_1, li_2, li_3, li_4, li_5, li_6, li_7, li_8, li_9, li_10, li_12, li_14, li_15, li_16, li_18, li_19, li_20, li_22, li_23, li_24, li_26, li_29, li_30, li_31, li_32, li_36, li_38, li_48, li_50, li_57, li_58, li_59, li_60, li_63, li_97, li_99, li_120, li_122, li_144, li_168, li_194, li_240, li_255, li_284, li_299, li_603, li_999, li_1200, li_1440, li_4095, li_4096, li_6030, li_16384, li_20160, zl0, zl1, zl2, zl3, zl4, ze01, ze02, ze03, ze04, ze10, ze12, ze13, ze14, ze20, ze21, ze23, ze24, ze30, ze31, ze32, ze34, ze40, ze41, ze42, ze43, zt0, zt1, zt2, zt3, zt4, zq0, zq1, zq2, zq3, zq4, it_t, it_f, Bool.true_eq_false, Bool.false_eq_true, na5, na4, na1441, na2, na10, sx_IOIA, sx_IOIS, sx_IONS, sx_IAIO, sx_IAIS, sx_IANS, sx_ISIO, sx_ISIA, sx_ISNS, sx_NSIO, sx_NSIA, sx_NSIS, r_cM_gS S3, kt h3 Fr.rf, b2i_0, decide_eq_false ct, r_p413 S3, r_c413_al S3, e0, aJ_v] at hst ⊢
        exact hst
end
