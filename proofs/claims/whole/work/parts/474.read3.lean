/-! the class's reader: new names, known names, words -/
section
variable {h h0 : aH} {tx : Nat → Nat} {n Q s : Nat} {M : Nat → Nat → Nat}
/-- the plan that is being read says M -/
def PQ (tx : Nat → Nat) (n Q : Nat) (M : Nat → Nat → Nat) (h : aH) : Prop := PlR h Q M ∧ (∀ so, so < 4 → NQ tx n Q M so (nmN M so) h) ∧ h_iv h Q 3 = nI (M 412 40) ∧ (∀ k, k < 144 → h_iv h (Q + 3) k = if M 441 k = 0 then -nI 1 else nI (M 440 k)) ∧ ∀ g, g < M 412 9 → ∀ j, j < M 424 g → h_iv h (Q + 21 + 2 * g) j = nI (M 445 (8 * g + j))
/-- M can be a plan -/
def WM (M : Nat → Nat → Nat) : Prop := PlD M ∧ M 412 40 ≤ 24 ∧ (∀ k, M 440 k ≤ 9) ∧ (∀ k, M 441 k ≤ 1) ∧ (∀ a, a < 12 → M 441 (12 * a + a) = 0) ∧ ∀ g, g < M 412 9 → ∀ j, j < M 424 g → M 445 (8 * g + j) < M 412 8
theorem nmO_in (hD : PlD M) {so i : Nat} (hso : so < 4) (hi : i < nmN M so) : Q ≤ nmO Q so i ∧ nmO Q so i < Q + 65 := by
  have e1 := hD.nP
  have e2 := hD.nG
  have e3 := hD.nE
  have e4 := hD.nK
  unfold nmN at hi
  unfold nmO
  rcases (show so = 0 ∨ so = 1 ∨ so = 2 ∨ so = 3 by omega) with r | r | r | r <;> subst r
  · change i < M 412 8 at hi
    show Q ≤ Q + 8 + 1 * i ∧ Q + 8 + 1 * i < Q + 65
    omega
  · change i < M 412 9 at hi
    show Q ≤ Q + 20 + 2 * i ∧ Q + 20 + 2 * i < Q + 65
    omega
  · change i < M 412 10 at hi
    show Q ≤ Q + 32 + 3 * i ∧ Q + 32 + 3 * i < Q + 65
    omega
  · change i < M 412 11 at hi
    show Q ≤ Q + 47 + 3 * i ∧ Q + 47 + 3 * i < Q + 65
    omega
theorem PQ.rf {h1 : aH} (p : PQ tx n Q M h) (x : RF h h1) (hD : PlD M) (hQ : Q ∈ plL) : PQ tx n Q M h1 := by
  have q1 := pl_in Q hQ
  obtain ⟨p1, p2, p3, p4, p5⟩ := p
  have dG := hD.nG
  obtain ⟨x1, x2, x3, x4, x5, x6, x7⟩ := x
  refine ⟨p1.keep (fun o a b => funext fun k => x6 o k (by omega)) hD, fun so hso i hi => ⟨(p2 so hso i hi).1, ?_⟩, by rw [x6 _ _ (by omega)]; exact p3, fun k hk => by rw [x6 _ _ (by omega)]; exact p4 k hk, fun g hg j hj => by rw [x6 _ _ (by omega)]; exact p5 g hg j hj⟩
  have := nmO_in (Q := Q) hD hso hi
  rw [x7 _ _ (by omega)]
  exact (p2 so hso i hi).2
theorem nmN_le (hD : PlD M) {so : Nat} (hso : so < 4) : nmN M so ≤ (if so = 0 then 12 else if so = 2 then 5 else 6) := by
  rcases (show so = 0 ∨ so = 1 ∨ so = 2 ∨ so = 3 by omega) with r | r | r | r <;> subst r
  · exact hD.nP
  · exact hD.nG
  · exact hD.nE
  · exact hD.nK
theorem PQ.cnt (p : PQ tx n Q M h) {so : Nat} (hso : so < 4) : h_iv h Q (if so = 0 then 1 else if so = 1 then 5 else if so = 2 then 7 else 9) = nI (nmN M so) := by
  rcases (show so = 0 ∨ so = 1 ∨ so = 2 ∨ so = 3 by omega) with r | r | r | r <;> subst r
  · exact p.1.nP
  · exact p.1.nG
  · exact p.1.nE
  · exact p.1.nK
theorem k_newName (X : TX tx n h0) (hQ : Q ∈ plL) (C : CS tx n Q h0 h s) (p : PQ tx n Q M h) (hD : PlD M) {so : Nat} (hso : so < 4) : CP Q h0 (m_X9_takesNewName 3 (nI so) h) (sNew tx n M so (nmN M so) s) (fun s' h1 => CS tx n Q h0 h1 s' ∧ RF h h1 ∧ h_lv h1 3 8 = lN (nm32 tx n s)) := by
  have e : sNew tx n M so (nmN M so) s = sb (if nmd tx n s = false then (.inl (1, s) : ER ⊕ Nat) else .inr (adv tx n s)) (fun s' => if fnd tx n M so (nmN M so) s < nmN M so then .inl (3, s) else .inr s') := by
    unfold sNew
    by_cases c : nmd tx n s = false
    · rw [if_pos c, if_pos c]; rfl
    · rw [if_neg c, if_neg c]; rfl
  rw [e]
  simp (maxSteps := 3000000) (disch := first | assumption | omega) only [m_X9_takesNewName, bO_v, bR_v, bX_l, bX_r, bC_l, bC_r, aLet_v, nI_add, pk_mul, dvI_n, rmI_n, iMax_n, iMin_n, zO_0, zO_1, li_0, li_1, li_2, li_3, li_4, li_5, li_6, li_7, li_8, li_9, li_10, li_12, li_14, li_15, li_16, li_18, li_19, li_20, li_22, li_23, li_24, li_26, li_29, li_30, li_31, li_32, li_36, li_38, li_48, li_50, li_57, li_58, li_59, li_60, li_63, li_97, li_99, li_120, li_122, li_144, li_168, li_194, li_240, li_255, li_284, li_299, li_603, li_999, li_1200, li_1440, li_4095, li_4096, li_6030, li_16384, li_20160, zl0, zl1, zl2, zl3, zl4, ze01, ze02, ze03, ze04, ze10, ze12, ze13, ze14, ze20, ze21, ze23, ze24, ze30, ze31, ze32, ze34, ze40, ze41, ze42, ze43, zt0, zt1, zt2, zt3, zt4, zq0, zq1, zq2, zq3, zq4, it_t, it_f, Bool.true_eq_false, Bool.false_eq_true, na5, na4, na1441, na2, na10, sx_IOIA, sx_IOIS, sx_IONS, sx_IAIO, sx_IAIS, sx_IANS, sx_ISIO, sx_ISIA, sx_ISNS, sx_NSIO, sx_NSIA, sx_NSIS, c_cR_gS C.1]
  refine sb_cp (k_name X hQ C) (fun s' h1 es hh => ?_)
  obtain ⟨C1, R1, g8, g6⟩ := hh
  have nd : nmd tx n s = true := by
    cases c : nmd tx n s
    · rw [if_pos c] at es; cases es
    · rfl
  have S1 := C1.1
  have p1 := p.rf R1 hD hQ
  have le := nmN_le hD hso
  have kn := k_numberOf (s := s) S1 hQ hso le (p1.cnt hso) (p1.2.1 so hso) nd
  have fl : fnd tx n M so (nmN M so) s ≤ nmN M so := fa_first_le _ _
  have c12 : nmN M so ≤ 12 := by split at le <;> (try split at le) <;> omega
  simp (maxSteps := 3000000) (disch := first | assumption | omega) only [bO_v, bR_v, bX_l, bX_r, bC_l, bC_r, aLet_v, nI_add, pk_mul, dvI_n, rmI_n, iMax_n, iMin_n, zO_0, zO_1, li_0, li_1, li_2, li_3, li_4, li_5, li_6, li_7, li_8, li_9, li_10, li_12, li_14, li_15, li_16, li_18, li_19, li_20, li_22, li_23, li_24, li_26, li_29, li_30, li_31, li_32, li_36, li_38, li_48, li_50, li_57, li_58, li_59, li_60, li_63, li_97, li_99, li_120, li_122, li_144, li_168, li_194, li_240, li_255, li_284, li_299, li_603, li_999, li_1200, li_1440, li_4095, li_4096, li_6030, li_16384, li_20160, zl0, zl1, zl2, zl3, zl4, ze01, ze02, ze03, ze04, ze10, ze12, ze13, ze14, ze20, ze21, ze23, ze24, ze30, ze31, ze32, ze34, ze40, ze41, ze42, ze43, zt0, zt1, zt2, zt3, zt4, zq0, zq1, zq2, zq3, zq4, it_t, it_f, Bool.true_eq_false, Bool.false_eq_true, na5, na4, na1441, na2, na10, sx_IOIA, sx_IOIS, sx_IONS, sx_IAIO, sx_IAIS, sx_IANS, sx_ISIO, sx_ISIA, sx_ISNS, sx_NSIO, sx_NSIA, sx_NSIS, C1.g2 hQ, c_cR_gL S1, g8, p_cP_gS S1 hQ, kn]
  refine aJ_gen (R := fun o => CP Q h0 o (if fnd tx n M so (nmN M so) s < nmN M so then (.inl (3, s) : ER ⊕ Nat) else .inr s') (fun s' h1 => CS tx n Q h0 h1 s' ∧ RF h h1 ∧ h_lv h1 3 8 = lN (nm32 tx n s))) (fun k42 hk42 => ?_)
  refine aJ_gen (R := fun o => CP Q h0 o (if fnd tx n M so (nmN M so) s < nmN M so then (.inl (3, s) : ER ⊕ Nat) else .inr s') (fun s' h1 => CS tx n Q h0 h1 s' ∧ RF h h1 ∧ h_lv h1 3 8 = lN (nm32 tx n s))) (fun k37 hk37 => ?_)
  by_cases c : fnd tx n M so (nmN M so) s < nmN M so
  · have ne : ¬ nI (fnd tx n M so (nmN M so) s) = -nI 1 := fun q => by
      have h9 := congrArg Int32.toInt q
      rw [nI_toInt (by omega)] at h9
      have h10 : (-nI 1).toInt = -1 := by decide
      omega
    obtain ⟨h2, e2, q2, -⟩ := k_failsAt (c := 3) (p := s) S1 C1.2.1
    rw [if_pos c, if_neg ne]
    simp (maxSteps := 3000000) (disch := first | assumption | omega) only [c_cR_gi S1, g6, bO_v, bR_v, bX_l, bX_r, bC_l, bC_r, aLet_v, nI_add, pk_mul, dvI_n, rmI_n, iMax_n, iMin_n, zO_0, zO_1, li_0, li_1, li_2, li_3, li_4, li_5, li_6, li_7, li_8, li_9, li_10, li_12, li_14, li_15, li_16, li_18, li_19, li_20, li_22, li_23, li_24, li_26, li_29, li_30, li_31, li_32, li_36, li_38, li_48, li_50, li_57, li_58, li_59, li_60, li_63, li_97, li_99, li_120, li_122, li_144, li_168, li_194, li_240, li_255, li_284, li_299, li_603, li_999, li_1200, li_1440, li_4095, li_4096, li_6030, li_16384, li_20160, zl0, zl1, zl2, zl3, zl4, ze01, ze02, ze03, ze04, ze10, ze12, ze13, ze14, ze20, ze21, ze23, ze24, ze30, ze31, ze32, ze34, ze40, ze41, ze42, ze43, zt0, zt1, zt2, zt3, zt4, zq0, zq1, zq2, zq3, zq4, it_t, it_f, Bool.true_eq_false, Bool.false_eq_true, na5, na4, na1441, na2, na10, sx_IOIA, sx_IOIS, sx_IONS, sx_IAIO, sx_IAIS, sx_IANS, sx_ISIO, sx_ISIA, sx_ISNS, sx_NSIO, sx_NSIA, sx_NSIS, c_cR_gS S1, e2]
    rw [hk42]
    simp (maxSteps := 3000000) (disch := first | assumption | omega) only [bO_v, bR_v, bX_l, bX_r, bC_l, bC_r, aLet_v, nI_add, pk_mul, dvI_n, rmI_n, iMax_n, iMin_n, zO_0, zO_1, li_0, li_1, li_2, li_3, li_4, li_5, li_6, li_7, li_8, li_9, li_10, li_12, li_14, li_15, li_16, li_18, li_19, li_20, li_22, li_23, li_24, li_26, li_29, li_30, li_31, li_32, li_36, li_38, li_48, li_50, li_57, li_58, li_59, li_60, li_63, li_97, li_99, li_120, li_122, li_144, li_168, li_194, li_240, li_255, li_284, li_299, li_603, li_999, li_1200, li_1440, li_4095, li_4096, li_6030, li_16384, li_20160, zl0, zl1, zl2, zl3, zl4, ze01, ze02, ze03, ze04, ze10, ze12, ze13, ze14, ze20, ze21, ze23, ze24, ze30, ze31, ze32, ze34, ze40, ze41, ze42, ze43, zt0, zt1, zt2, zt3, zt4, zq0, zq1, zq2, zq3, zq4, it_t, it_f, Bool.true_eq_false, Bool.false_eq_true, na5, na4, na1441, na2, na10, sx_IOIA, sx_IOIS, sx_IONS, sx_IAIO, sx_IAIS, sx_IANS, sx_ISIO, sx_ISIA, sx_ISNS, sx_NSIO, sx_NSIA, sx_NSIS]
    exact cp_inl (by rw [if_pos c]) q2
  · have m1 : (-nI 1 = -nI 1) = True := eq_self _
    rw [if_neg c, if_pos rfl, hk37, hk42]
    simp (maxSteps := 3000000) (disch := first | assumption | omega) only [bO_v, bR_v, bX_l, bX_r, bC_l, bC_r, aLet_v, nI_add, pk_mul, dvI_n, rmI_n, iMax_n, iMin_n, zO_0, zO_1, li_0, li_1, li_2, li_3, li_4, li_5, li_6, li_7, li_8, li_9, li_10, li_12, li_14, li_15, li_16, li_18, li_19, li_20, li_22, li_23, li_24, li_26, li_29, li_30, li_31, li_32, li_36, li_38, li_48, li_50, li_57, li_58, li_59, li_60, li_63, li_97, li_99, li_120, li_122, li_144, li_168, li_194, li_240, li_255, li_284, li_299, li_603, li_999, li_1200, li_1440, li_4095, li_4096, li_6030, li_16384, li_20160, zl0, zl1, zl2, zl3, zl4, ze01, ze02, ze03, ze04, ze10, ze12, ze13, ze14, ze20, ze21, ze23, ze24, ze30, ze31, ze32, ze34, ze40, ze41, ze42, ze43, zt0, zt1, zt2, zt3, zt4, zq0, zq1, zq2, zq3, zq4, it_t, it_f, Bool.true_eq_false, Bool.false_eq_true, na5, na4, na1441, na2, na10, sx_IOIA, sx_IOIS, sx_IONS, sx_IAIO, sx_IAIS, sx_IANS, sx_ISIO, sx_ISIA, sx_ISNS, sx_NSIO, sx_NSIA, sx_NSIS]
    exact cp_inr (a := s') (by rw [if_neg c]) ⟨C1, R1, g8⟩
theorem k_nameOf (X : TX tx n h0) (hQ : Q ∈ plL) (C : CS tx n Q h0 h s) (p : PQ tx n Q M h) (hD : PlD M) {so : Nat} (hso : so < 4) : CP Q h0 (m_X9_takesNameOf 3 (nI so) h) (sOf tx n M so (nmN M so) s) (fun a h1 => CS tx n Q h0 h1 a.2 ∧ RF h h1 ∧ h_iv h1 3 7 = nI a.1 ∧ h_iv h1 3 6 = nI s ∧ a.1 < nmN M so) := by
  have e : sOf tx n M so (nmN M so) s = sb (if nmd tx n s = false then (.inl (1, s) : ER ⊕ Nat) else .inr (adv tx n s)) (fun s' => if fnd tx n M so (nmN M so) s < nmN M so then .inr (fnd tx n M so (nmN M so) s, s') else .inl (4, s)) := by
    unfold sOf
    by_cases c : nmd tx n s = false
    · rw [if_pos c, if_pos c]; rfl
    · rw [if_neg c, if_neg c]; rfl
  rw [e]
  simp (maxSteps := 3000000) (disch := first | assumption | omega) only [m_X9_takesNameOf, bO_v, bR_v, bX_l, bX_r, bC_l, bC_r, aLet_v, nI_add, pk_mul, dvI_n, rmI_n, iMax_n, iMin_n, zO_0, zO_1, li_0, li_1, li_2, li_3, li_4, li_5, li_6, li_7, li_8, li_9, li_10, li_12, li_14, li_15, li_16, li_18, li_19, li_20, li_22, li_23, li_24, li_26, li_29, li_30, li_31, li_32, li_36, li_38, li_48, li_50, li_57, li_58, li_59, li_60, li_63, li_97, li_99, li_120, li_122, li_144, li_168, li_194, li_240, li_255, li_284, li_299, li_603, li_999, li_1200, li_1440, li_4095, li_4096, li_6030, li_16384, li_20160, zl0, zl1, zl2, zl3, zl4, ze01, ze02, ze03, ze04, ze10, ze12, ze13, ze14, ze20, ze21, ze23, ze24, ze30, ze31, ze32, ze34, ze40, ze41, ze42, ze43, zt0, zt1, zt2, zt3, zt4, zq0, zq1, zq2, zq3, zq4, it_t, it_f, Bool.true_eq_false, Bool.false_eq_true, na5, na4, na1441, na2, na10, sx_IOIA, sx_IOIS, sx_IONS, sx_IAIO, sx_IAIS, sx_IANS, sx_ISIO, sx_ISIA, sx_ISNS, sx_NSIO, sx_NSIA, sx_NSIS, c_cR_gS C.1]
  refine sb_cp (k_name X hQ C) (fun s' h1 es hh => ?_)
  obtain ⟨C1, R1, g8, g6⟩ := hh
  have nd : nmd tx n s = true := by
    cases c : nmd tx n s
    · rw [if_pos c] at es; cases es
    · rfl
  have S1 := C1.1
  have p1 := p.rf R1 hD hQ
  have le := nmN_le hD hso
  have kn := k_numberOf (s := s) S1 hQ hso le (p1.cnt hso) (p1.2.1 so hso) nd
  have fl : fnd tx n M so (nmN M so) s ≤ nmN M so := fa_first_le _ _
  have c12 : nmN M so ≤ 12 := by split at le <;> (try split at le) <;> omega
  have F2 : ∀ x, Fx (fun o k => o = 3 ∧ k = 7) h1 (h_si h1 3 7 x) := fun x => Fx.si ⟨rfl, rfl⟩
  have R2 : ∀ x, RF h1 (h_si h1 3 7 x) := fun x => RF.fx (F2 x) (fun o k q => q.1)
  have C2 : ∀ x, CS tx n Q h0 (h_si h1 3 7 x) s' := fun x => C1.rf (R2 x) ⟨(F2 x).iv (by omega), (F2 x).iv (by omega), (F2 x).iv (by omega)⟩ ⟨by rw [(F2 x).iv (by omega)]; exact C1.2.2.2.2.1.1, by rw [(F2 x).iv (by omega)]; exact C1.2.2.2.2.1.2.1, by rw [(F2 x).iv (by omega)]; exact C1.2.2.2.2.1.2.2⟩ C1.2.2.2.2.2.1 C1.2.2.2.2.2.2.1
  have g7 : ∀ x, h_iv (h_si h1 3 7 x) 3 7 = x := fun x => si_at
  have g62 : ∀ x, h_iv (h_si h1 3 7 x) 3 6 = nI s := fun x => by rw [si_ne (by omega)]; exact g6
  simp (maxSteps := 3000000) (disch := first | assumption | omega) only [bO_v, bR_v, bX_l, bX_r, bC_l, bC_r, aLet_v, nI_add, pk_mul, dvI_n, rmI_n, iMax_n, iMin_n, zO_0, zO_1, li_0, li_1, li_2, li_3, li_4, li_5, li_6, li_7, li_8, li_9, li_10, li_12, li_14, li_15, li_16, li_18, li_19, li_20, li_22, li_23, li_24, li_26, li_29, li_30, li_31, li_32, li_36, li_38, li_48, li_50, li_57, li_58, li_59, li_60, li_63, li_97, li_99, li_120, li_122, li_144, li_168, li_194, li_240, li_255, li_284, li_299, li_603, li_999, li_1200, li_1440, li_4095, li_4096, li_6030, li_16384, li_20160, zl0, zl1, zl2, zl3, zl4, ze01, ze02, ze03, ze04, ze10, ze12, ze13, ze14, ze20, ze21, ze23, ze24, ze30, ze31, ze32, ze34, ze40, ze41, ze42, ze43, zt0, zt1, zt2, zt3, zt4, zq0, zq1, zq2, zq3, zq4, it_t, it_f, Bool.true_eq_false, Bool.false_eq_true, na5, na4, na1441, na2, na10, sx_IOIA, sx_IOIS, sx_IONS, sx_IAIO, sx_IAIS, sx_IANS, sx_ISIO, sx_ISIA, sx_ISNS, sx_NSIO, sx_NSIA, sx_NSIS, C1.g2 hQ, c_cR_gL S1, g8, p_cP_gS S1 hQ, kn, c_cR_pi S1, c_cR_gi (C2 _).1, g7]
  refine aJ_gen (R := fun o => CP Q h0 o (if fnd tx n M so (nmN M so) s < nmN M so then (.inr (fnd tx n M so (nmN M so) s, s') : ER ⊕ (Nat × Nat)) else .inl (4, s)) (fun a h1 => CS tx n Q h0 h1 a.2 ∧ RF h h1 ∧ h_iv h1 3 7 = nI a.1 ∧ h_iv h1 3 6 = nI s ∧ a.1 < nmN M so)) (fun k50 hk50 => ?_)
  refine aJ_gen (R := fun o => CP Q h0 o (if fnd tx n M so (nmN M so) s < nmN M so then (.inr (fnd tx n M so (nmN M so) s, s') : ER ⊕ (Nat × Nat)) else .inl (4, s)) (fun a h1 => CS tx n Q h0 h1 a.2 ∧ RF h h1 ∧ h_iv h1 3 7 = nI a.1 ∧ h_iv h1 3 6 = nI s ∧ a.1 < nmN M so)) (fun k45 hk45 => ?_)
  by_cases c : fnd tx n M so (nmN M so) s < nmN M so
  · have ne : ¬ nI (fnd tx n M so (nmN M so) s) = -nI 1 := fun q => by
      have h9 := congrArg Int32.toInt q
      rw [nI_toInt (by omega)] at h9
      have h10 : (-nI 1).toInt = -1 := by decide
      omega
    simp only [if_pos c, if_neg ne]
    rw [hk45, hk50]
    simp (maxSteps := 3000000) (disch := first | assumption | omega) only [bO_v, bR_v, bX_l, bX_r, bC_l, bC_r, aLet_v, nI_add, pk_mul, dvI_n, rmI_n, iMax_n, iMin_n, zO_0, zO_1, li_0, li_1, li_2, li_3, li_4, li_5, li_6, li_7, li_8, li_9, li_10, li_12, li_14, li_15, li_16, li_18, li_19, li_20, li_22, li_23, li_24, li_26, li_29, li_30, li_31, li_32, li_36, li_38, li_48, li_50, li_57, li_58, li_59, li_60, li_63, li_97, li_99, li_120, li_122, li_144, li_168, li_194, li_240, li_255, li_284, li_299, li_603, li_999, li_1200, li_1440, li_4095, li_4096, li_6030, li_16384, li_20160, zl0, zl1, zl2, zl3, zl4, ze01, ze02, ze03, ze04, ze10, ze12, ze13, ze14, ze20, ze21, ze23, ze24, ze30, ze31, ze32, ze34, ze40, ze41, ze42, ze43, zt0, zt1, zt2, zt3, zt4, zq0, zq1, zq2, zq3, zq4, it_t, it_f, Bool.true_eq_false, Bool.false_eq_true, na5, na4, na1441, na2, na10, sx_IOIA, sx_IOIS, sx_IONS, sx_IAIO, sx_IAIS, sx_IANS, sx_ISIO, sx_ISIA, sx_ISNS, sx_NSIO, sx_NSIA, sx_NSIS]
    exact cp_inr (a := (fnd tx n M so (nmN M so) s, s')) rfl ⟨C2 _, R1.trans (R2 _), g7 _, g62 _, c⟩
  · obtain ⟨h2, e2, q2, -⟩ := k_failsAt (c := 4) (p := s) (C2 (-nI 1)).1 (C2 (-nI 1)).2.1
    simp only [if_neg c, if_pos (rfl : -nI 1 = -nI 1)]
    simp (maxSteps := 3000000) (disch := first | assumption | omega) only [c_cR_gi (C2 _).1, g62, bO_v, bR_v, bX_l, bX_r, bC_l, bC_r, aLet_v, nI_add, pk_mul, dvI_n, rmI_n, iMax_n, iMin_n, zO_0, zO_1, li_0, li_1, li_2, li_3, li_4, li_5, li_6, li_7, li_8, li_9, li_10, li_12, li_14, li_15, li_16, li_18, li_19, li_20, li_22, li_23, li_24, li_26, li_29, li_30, li_31, li_32, li_36, li_38, li_48, li_50, li_57, li_58, li_59, li_60, li_63, li_97, li_99, li_120, li_122, li_144, li_168, li_194, li_240, li_255, li_284, li_299, li_603, li_999, li_1200, li_1440, li_4095, li_4096, li_6030, li_16384, li_20160, zl0, zl1, zl2, zl3, zl4, ze01, ze02, ze03, ze04, ze10, ze12, ze13, ze14, ze20, ze21, ze23, ze24, ze30, ze31, ze32, ze34, ze40, ze41, ze42, ze43, zt0, zt1, zt2, zt3, zt4, zq0, zq1, zq2, zq3, zq4, it_t, it_f, Bool.true_eq_false, Bool.false_eq_true, na5, na4, na1441, na2, na10, sx_IOIA, sx_IOIS, sx_IONS, sx_IAIO, sx_IAIS, sx_IANS, sx_ISIO, sx_ISIA, sx_ISNS, sx_NSIO, sx_NSIA, sx_NSIS, c_cR_gS (C2 _).1, e2]
    rw [hk50]
    simp (maxSteps := 3000000) (disch := first | assumption | omega) only [bO_v, bR_v, bX_l, bX_r, bC_l, bC_r, aLet_v, nI_add, pk_mul, dvI_n, rmI_n, iMax_n, iMin_n, zO_0, zO_1, li_0, li_1, li_2, li_3, li_4, li_5, li_6, li_7, li_8, li_9, li_10, li_12, li_14, li_15, li_16, li_18, li_19, li_20, li_22, li_23, li_24, li_26, li_29, li_30, li_31, li_32, li_36, li_38, li_48, li_50, li_57, li_58, li_59, li_60, li_63, li_97, li_99, li_120, li_122, li_144, li_168, li_194, li_240, li_255, li_284, li_299, li_603, li_999, li_1200, li_1440, li_4095, li_4096, li_6030, li_16384, li_20160, zl0, zl1, zl2, zl3, zl4, ze01, ze02, ze03, ze04, ze10, ze12, ze13, ze14, ze20, ze21, ze23, ze24, ze30, ze31, ze32, ze34, ze40, ze41, ze42, ze43, zt0, zt1, zt2, zt3, zt4, zq0, zq1, zq2, zq3, zq4, it_t, it_f, Bool.true_eq_false, Bool.false_eq_true, na5, na4, na1441, na2, na10, sx_IOIA, sx_IOIS, sx_IONS, sx_IAIO, sx_IAIS, sx_IANS, sx_ISIO, sx_ISIA, sx_ISNS, sx_NSIO, sx_NSIA, sx_NSIS]
    exact cp_inl rfl q2
theorem wc : wcode 0 = 7622660 ∧ wcode 1 = 232608281 ∧ wcode 2 = 10998956 ∧ wcode 3 = 8527995 ∧ wcode 4 = 79329434 ∧ wcode 5 = 223456 ∧ wcode 6 = 1758489 ∧ wcode 7 = 67154904 ∧ wcode 8 = 7010310 ∧ wcode 9 = 10364495 ∧ wcode 10 = 1132 := by decide +kernel
theorem k_skillOf (X : TX tx n h0) (hQ : Q ∈ plL) (C : CS tx n Q h0 h s) : m_X9_skillOfWord 3 h = some (nI (sSkill tx n s), h) := by
  have w := fun {i : Nat} (hi : i < 11) => k_isWord X hQ C hi
  obtain ⟨-, -, -, -, -, -, w6, w7, w8, w9, -⟩ := wc
  simp (maxSteps := 3000000) (disch := first | assumption | omega) only [m_X9_skillOfWord, bO_v, bR_v, bX_l, bX_r, bC_l, bC_r, aLet_v, nI_add, pk_mul, dvI_n, rmI_n, iMax_n, iMin_n, zO_0, zO_1, li_0, li_1, li_2, li_3, li_4, li_5, li_6, li_7, li_8, li_9, li_10, li_12, li_14, li_15, li_16, li_18, li_19, li_20, li_22, li_23, li_24, li_26, li_29, li_30, li_31, li_32, li_36, li_38, li_48, li_50, li_57, li_58, li_59, li_60, li_63, li_97, li_99, li_120, li_122, li_144, li_168, li_194, li_240, li_255, li_284, li_299, li_603, li_999, li_1200, li_1440, li_4095, li_4096, li_6030, li_16384, li_20160, zl0, zl1, zl2, zl3, zl4, ze01, ze02, ze03, ze04, ze10, ze12, ze13, ze14, ze20, ze21, ze23, ze24, ze30, ze31, ze32, ze34, ze40, ze41, ze42, ze43, zt0, zt1, zt2, zt3, zt4, zq0, zq1, zq2, zq3, zq4, it_t, it_f, Bool.true_eq_false, Bool.false_eq_true, na5, na4, na1441, na2, na10, sx_IOIA, sx_IOIS, sx_IONS, sx_IAIO, sx_IAIS, sx_IANS, sx_ISIO, sx_ISIA, sx_ISNS, sx_NSIO, sx_NSIA, sx_NSIS, c_cR_gS C.1, w (i := 6), w (i := 7), w (i := 8), w (i := 9), b2i_0, w6, w7, w8, w9]
  rw [aJ_v]
  unfold sSkill
  cases isWd tx n s 1758489 <;> cases isWd tx n s 67154904 <;> cases isWd tx n s 7010310 <;> cases isWd tx n s 10364495 <;> rfl
theorem k_sectionOf (X : TX tx n h0) (hQ : Q ∈ plL) (C : CS tx n Q h0 h s) : m_X9_sectionOfWord 3 h = some (if sSec tx n s = 5 then -nI 1 else nI (sSec tx n s), h) := by
  have w := fun {i : Nat} (hi : i < 11) => k_isWord X hQ C hi
  obtain ⟨-, w1, w2, w3, w4, w5, -⟩ := wc
  simp (maxSteps := 3000000) (disch := first | assumption | omega) only [m_X9_sectionOfWord, bO_v, bR_v, bX_l, bX_r, bC_l, bC_r, aLet_v, nI_add, pk_mul, dvI_n, rmI_n, iMax_n, iMin_n, zO_0, zO_1, li_0, li_1, li_2, li_3, li_4, li_5, li_6, li_7, li_8, li_9, li_10, li_12, li_14, li_15, li_16, li_18, li_19, li_20, li_22, li_23, li_24, li_26, li_29, li_30, li_31, li_32, li_36, li_38, li_48, li_50, li_57, li_58, li_59, li_60, li_63, li_97, li_99, li_120, li_122, li_144, li_168, li_194, li_240, li_255, li_284, li_299, li_603, li_999, li_1200, li_1440, li_4095, li_4096, li_6030, li_16384, li_20160, zl0, zl1, zl2, zl3, zl4, ze01, ze02, ze03, ze04, ze10, ze12, ze13, ze14, ze20, ze21, ze23, ze24, ze30, ze31, ze32, ze34, ze40, ze41, ze42, ze43, zt0, zt1, zt2, zt3, zt4, zq0, zq1, zq2, zq3, zq4, it_t, it_f, Bool.true_eq_false, Bool.false_eq_true, na5, na4, na1441, na2, na10, sx_IOIA, sx_IOIS, sx_IONS, sx_IAIO, sx_IAIS, sx_IANS, sx_ISIO, sx_ISIA, sx_ISNS, sx_NSIO, sx_NSIA, sx_NSIS, aJ_v]
  refine aL1_run (R := fun o => o = some (if sSec tx n s = 5 then -nI 1 else nI (sSec tx n s), h)) (fun m s1 g => g = h ∧ ∃ i, i ≤ 5 ∧ m = 5 - i ∧ s1 = nI i ∧ ∀ j, j < i → isWd tx n s (wcode (j + 1)) = false) ⟨rfl, 0, Nat.zero_le _, rfl, rfl, fun j q => absurd q (Nat.not_lt_zero j)⟩ (by omega) ?_
  rintro rec m s1 g ⟨rfl, i, hi, rfl, rfl, no⟩ ih
  by_cases hlt : i < 5
  · have sw : m_X9_sectionWord (nI i) g = some (i + 1, g) := by
      rcases (show i = 0 ∨ i = 1 ∨ i = 2 ∨ i = 3 ∨ i = 4 by omega) with r | r | r | r | r <;> subst r <;> rfl
    simp (maxSteps := 3000000) (disch := first | assumption | omega) only [m_X9_sectionOfWord_L2, bO_v, bR_v, bX_l, bX_r, bC_l, bC_r, aLet_v, nI_add, pk_mul, dvI_n, rmI_n, iMax_n, iMin_n, zO_0, zO_1, li_0, li_1, li_2, li_3, li_4, li_5, li_6, li_7, li_8, li_9, li_10, li_12, li_14, li_15, li_16, li_18, li_19, li_20, li_22, li_23, li_24, li_26, li_29, li_30, li_31, li_32, li_36, li_38, li_48, li_50, li_57, li_58, li_59, li_60, li_63, li_97, li_99, li_120, li_122, li_144, li_168, li_194, li_240, li_255, li_284, li_299, li_603, li_999, li_1200, li_1440, li_4095, li_4096, li_6030, li_16384, li_20160, zl0, zl1, zl2, zl3, zl4, ze01, ze02, ze03, ze04, ze10, ze12, ze13, ze14, ze20, ze21, ze23, ze24, ze30, ze31, ze32, ze34, ze40, ze41, ze42, ze43, zt0, zt1, zt2, zt3, zt4, zq0, zq1, zq2, zq3, zq4, it_t, it_f, Bool.true_eq_false, Bool.false_eq_true, na5, na4, na1441, na2, na10, sx_IOIA, sx_IOIS, sx_IONS, sx_IAIO, sx_IAIS, sx_IANS, sx_ISIO, sx_ISIA, sx_ISNS, sx_NSIO, sx_NSIA, sx_NSIS, nI_ltI, sw, c_cR_gS C.1, w (i := i + 1) (by omega), b2i_0]
    rw [if_pos hlt]
    cases cb : isWd tx n s (wcode (i + 1))
    · rw [if_pos rfl]
      refine ih _ _ _ (by omega) ⟨rfl, i + 1, hlt, rfl, rfl, fun j hj => ?_⟩
      by_cases c : j = i
      · rw [c]; exact cb
      · exact no j (by omega)
    · rw [if_neg (by decide)]
      have : sSec tx n s = i := by
        unfold sSec
        rcases (show i = 0 ∨ i = 1 ∨ i = 2 ∨ i = 3 ∨ i = 4 by omega) with r | r | r | r | r <;> subst r
        · rw [← w1, cb]; rfl
        · rw [← w1, ← w2, no 0 (by omega), cb]; rfl
        · rw [← w1, ← w2, ← w3, no 0 (by omega), no 1 (by omega), cb]; rfl
        · rw [← w1, ← w2, ← w3, ← w4, no 0 (by omega), no 1 (by omega), no 2 (by omega), cb]; rfl
        · rw [← w1, ← w2, ← w3, ← w4, ← w5, no 0 (by omega), no 1 (by omega), no 2 (by omega), no 3 (by omega), cb]; rfl
      rw [this, if_neg (by omega)]
  · obtain rfl : i = 5 := by omega
    have : sSec tx n s = 5 := by
      unfold sSec
      rw [← w1, ← w2, ← w3, ← w4, ← w5, no 0 (by omega), no 1 (by omega), no 2 (by omega), no 3 (by omega), no 4 (by omega)]; rfl
    simp (maxSteps := 3000000) (disch := first | assumption | omega) only [m_X9_sectionOfWord_L2, bO_v, bR_v, bX_l, bX_r, bC_l, bC_r, aLet_v, nI_add, pk_mul, dvI_n, rmI_n, iMax_n, iMin_n, zO_0, zO_1, li_0, li_1, li_2, li_3, li_4, li_5, li_6, li_7, li_8, li_9, li_10, li_12, li_14, li_15, li_16, li_18, li_19, li_20, li_22, li_23, li_24, li_26, li_29, li_30, li_31, li_32, li_36, li_38, li_48, li_50, li_57, li_58, li_59, li_60, li_63, li_97, li_99, li_120, li_122, li_144, li_168, li_194, li_240, li_255, li_284, li_299, li_603, li_999, li_1200, li_1440, li_4095, li_4096, li_6030, li_16384, li_20160, zl0, zl1, zl2, zl3, zl4, ze01, ze02, ze03, ze04, ze10, ze12, ze13, ze14, ze20, ze21, ze23, ze24, ze30, ze31, ze32, ze34, ze40, ze41, ze42, ze43, zt0, zt1, zt2, zt3, zt4, zq0, zq1, zq2, zq3, zq4, it_t, it_f, Bool.true_eq_false, Bool.false_eq_true, na5, na4, na1441, na2, na10, sx_IOIA, sx_IOIS, sx_IONS, sx_IAIO, sx_IAIS, sx_IANS, sx_ISIO, sx_ISIA, sx_ISNS, sx_NSIO, sx_NSIA, sx_NSIS, nI_ltI]
    rw [if_neg hlt, this, if_pos rfl]
end
