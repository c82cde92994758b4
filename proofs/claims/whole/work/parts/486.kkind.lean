/-! the class's reader: a kind -/
section
variable {h h0 : aH} {tx : Nat → Nat} {n Q s : Nat} {M : Nat → Nat → Nat}
theorem k_kind (X : TX tx n h0) (hQ : Q ∈ plL) (C : CS tx n Q h0 h s) (p : PQ tx n Q M h) (w : WM M) (hs : s < n) : CP Q h0 (m_X9_readsKind 3 h) (sKind tx n M s) (fun r h1 => CS tx n Q h0 h1 r.2 ∧ PQ tx n Q r.1 h1) := by
  have q := pl_in Q hQ
  have hD := w.1
  have d0 := hD.nP
  have d1 := hD.nG
  have d2 := hD.nE
  have d3 := hD.nK
  have S0 := C.1
  simp (maxSteps := 3000000) (disch := first | assumption | omega) only [m_X9_readsKind, bO_v, bR_v, bX_l, bX_r, bC_l, bC_r, aLet_v, nI_add, pk_mul, dvI_n, rmI_n, iMax_n, iMin_n, zO_0, zO_1, li_0, li_1, li_2, li_3, li_4, li_5, li_6, li_7, li_8, li_9, li_10, li_12, li_14, li_15, li_16, li_18, li_19, li_20, li_22, li_23, li_24, li_26, li_29, li_30, li_31, li_32, li_36, li_38, li_48, li_50, li_57, li_58, li_59, li_60, li_63, li_97, li_99, li_120, li_122, li_144, li_168, li_194, li_240, li_255, li_284, li_299, li_603, li_999, li_1200, li_1440, li_4095, li_4096, li_6030, li_16384, li_20160, zl0, zl1, zl2, zl3, zl4, ze01, ze02, ze03, ze04, ze10, ze12, ze13, ze14, ze20, ze21, ze23, ze24, ze30, ze31, ze32, ze34, ze40, ze41, ze42, ze43, zt0, zt1, zt2, zt3, zt4, zq0, zq1, zq2, zq3, zq4, it_t, it_f, Bool.true_eq_false, Bool.false_eq_true, na5, na4, na1441, na2, na10, sx_IOIA, sx_IOIS, sx_IONS, sx_IAIO, sx_IAIS, sx_IANS, sx_ISIO, sx_ISIA, sx_ISNS, sx_NSIO, sx_NSIA, sx_NSIS, C.g2 hQ, p_cP_gi S0 hQ, p.1.nK, nI_ltI, c_cR_gS S0]
  unfold sKind
  by_cases c12 : 6 ≤ M 412 11
  · rw [if_neg (by omega), if_pos c12]
    obtain ⟨h1, e1, q1, -⟩ := k_fails C (c := 5)
    simp (maxSteps := 3000000) (disch := first | assumption | omega) only [e1, bO_v, bR_v, bX_l, bX_r, bC_l, bC_r, aLet_v, nI_add, pk_mul, dvI_n, rmI_n, iMax_n, iMin_n, zO_0, zO_1, li_0, li_1, li_2, li_3, li_4, li_5, li_6, li_7, li_8, li_9, li_10, li_12, li_14, li_15, li_16, li_18, li_19, li_20, li_22, li_23, li_24, li_26, li_29, li_30, li_31, li_32, li_36, li_38, li_48, li_50, li_57, li_58, li_59, li_60, li_63, li_97, li_99, li_120, li_122, li_144, li_168, li_194, li_240, li_255, li_284, li_299, li_603, li_999, li_1200, li_1440, li_4095, li_4096, li_6030, li_16384, li_20160, zl0, zl1, zl2, zl3, zl4, ze01, ze02, ze03, ze04, ze10, ze12, ze13, ze14, ze20, ze21, ze23, ze24, ze30, ze31, ze32, ze34, ze40, ze41, ze42, ze43, zt0, zt1, zt2, zt3, zt4, zq0, zq1, zq2, zq3, zq4, it_t, it_f, Bool.true_eq_false, Bool.false_eq_true, na5, na4, na1441, na2, na10, sx_IOIA, sx_IOIS, sx_IONS, sx_IAIO, sx_IAIS, sx_IANS, sx_ISIO, sx_ISIA, sx_ISNS, sx_NSIO, sx_NSIA, sx_NSIS]
    exact cp_inl rfl q1
  · have hk6 : M 412 11 < 6 := by omega
    rw [if_pos hk6, if_neg c12]
    obtain ⟨_, h1, e1, C1, R1, -⟩ := k_takeC X hQ C hs
    have S1 := C1.1
    have p1 := p.rf R1 hD hQ
    simp (maxSteps := 3000000) (disch := first | assumption | omega) only [e1, bO_v, bR_v, bX_l, bX_r, bC_l, bC_r, aLet_v, nI_add, pk_mul, dvI_n, rmI_n, iMax_n, iMin_n, zO_0, zO_1, li_0, li_1, li_2, li_3, li_4, li_5, li_6, li_7, li_8, li_9, li_10, li_12, li_14, li_15, li_16, li_18, li_19, li_20, li_22, li_23, li_24, li_26, li_29, li_30, li_31, li_32, li_36, li_38, li_48, li_50, li_57, li_58, li_59, li_60, li_63, li_97, li_99, li_120, li_122, li_144, li_168, li_194, li_240, li_255, li_284, li_299, li_603, li_999, li_1200, li_1440, li_4095, li_4096, li_6030, li_16384, li_20160, zl0, zl1, zl2, zl3, zl4, ze01, ze02, ze03, ze04, ze10, ze12, ze13, ze14, ze20, ze21, ze23, ze24, ze30, ze31, ze32, ze34, ze40, ze41, ze42, ze43, zt0, zt1, zt2, zt3, zt4, zq0, zq1, zq2, zq3, zq4, it_t, it_f, Bool.true_eq_false, Bool.false_eq_true, na5, na4, na1441, na2, na10, sx_IOIA, sx_IOIS, sx_IONS, sx_IAIO, sx_IAIS, sx_IANS, sx_ISIO, sx_ISIA, sx_ISNS, sx_NSIO, sx_NSIA, sx_NSIS, C1.g2 hQ, p_pks S1 hQ, p_cP_gi S1 hQ, p1.1.nK, p_ek_al S1 hQ, c_cR_gS S1]
    refine sb_cp (k_newName X hQ C1 p1 hD (so := 3) (by omega)) (fun s2 h2 e2 hh => ?_)
    obtain ⟨C2, R2, g8⟩ := hh
    obtain ⟨nd, -⟩ := sNew_inr e2
    have S2 := C2.1
    have p2 := p1.rf R2 hD hQ
    have C3 := C2.sL (B := Q + 47 + 3 * M 412 11) (y := lN (nm32 tx n (adv tx n s))) (by omega)
    simp (maxSteps := 3000000) (disch := first | assumption | omega) only [c_cR_gL S2, g8, p_ek_pL S2 hQ, bO_v, bR_v, bX_l, bX_r, bC_l, bC_r, aLet_v, nI_add, pk_mul, dvI_n, rmI_n, iMax_n, iMin_n, zO_0, zO_1, li_0, li_1, li_2, li_3, li_4, li_5, li_6, li_7, li_8, li_9, li_10, li_12, li_14, li_15, li_16, li_18, li_19, li_20, li_22, li_23, li_24, li_26, li_29, li_30, li_31, li_32, li_36, li_38, li_48, li_50, li_57, li_58, li_59, li_60, li_63, li_97, li_99, li_120, li_122, li_144, li_168, li_194, li_240, li_255, li_284, li_299, li_603, li_999, li_1200, li_1440, li_4095, li_4096, li_6030, li_16384, li_20160, zl0, zl1, zl2, zl3, zl4, ze01, ze02, ze03, ze04, ze10, ze12, ze13, ze14, ze20, ze21, ze23, ze24, ze30, ze31, ze32, ze34, ze40, ze41, ze42, ze43, zt0, zt1, zt2, zt3, zt4, zq0, zq1, zq2, zq3, zq4, it_t, it_f, Bool.true_eq_false, Bool.false_eq_true, na5, na4, na1441, na2, na10, sx_IOIA, sx_IOIS, sx_IONS, sx_IAIO, sx_IAIS, sx_IANS, sx_ISIO, sx_ISIA, sx_ISNS, sx_NSIO, sx_NSIA, sx_NSIS, c_cR_gS C3.1]
    refine sb_cp (k_number X hQ C3 (by omega) (by omega)) (fun u h4 e4 hh => ?_)
    obtain ⟨C4, R4, g7, -⟩ := hh
    obtain ⟨-, -, u3, -⟩ := sNum_inr e4
    have S4 := C4.1
    have F5 : Fx (fun o _ => o = Q + 47 + 3 * M 412 11) h4 (h_si h4 (Q + 47 + 3 * M 412 11) 1 (nI u.1)) := Fx.si rfl
    have C5 := C4.qx hQ F5 (fun o k a => by omega)
    have b5 : h_iv (h_si h4 (Q + 47 + 3 * M 412 11) 1 (nI u.1)) (Q + 47 + 3 * M 412 11) 1 = nI u.1 := si_at
    simp (maxSteps := 3000000) (disch := first | assumption | omega) only [c_cR_gi S4, g7, p_ek_pi S4 hQ, bO_v, bR_v, bX_l, bX_r, bC_l, bC_r, aLet_v, nI_add, pk_mul, dvI_n, rmI_n, iMax_n, iMin_n, zO_0, zO_1, li_0, li_1, li_2, li_3, li_4, li_5, li_6, li_7, li_8, li_9, li_10, li_12, li_14, li_15, li_16, li_18, li_19, li_20, li_22, li_23, li_24, li_26, li_29, li_30, li_31, li_32, li_36, li_38, li_48, li_50, li_57, li_58, li_59, li_60, li_63, li_97, li_99, li_120, li_122, li_144, li_168, li_194, li_240, li_255, li_284, li_299, li_603, li_999, li_1200, li_1440, li_4095, li_4096, li_6030, li_16384, li_20160, zl0, zl1, zl2, zl3, zl4, ze01, ze02, ze03, ze04, ze10, ze12, ze13, ze14, ze20, ze21, ze23, ze24, ze30, ze31, ze32, ze34, ze40, ze41, ze42, ze43, zt0, zt1, zt2, zt3, zt4, zq0, zq1, zq2, zq3, zq4, it_t, it_f, Bool.true_eq_false, Bool.false_eq_true, na5, na4, na1441, na2, na10, sx_IOIA, sx_IOIS, sx_IONS, sx_IAIO, sx_IAIS, sx_IANS, sx_ISIO, sx_ISIA, sx_ISNS, sx_NSIO, sx_NSIA, sx_NSIS, c_cR_gS C5.1]
    generalize h_si h4 (Q + 47 + 3 * M 412 11) 1 (nI u.1) = h5 at F5 C5 b5
    refine sb_cp (k_number X hQ C5 (by omega) (by omega)) (fun v h6 e6 hh => ?_)
    obtain ⟨C6, R6, g76, -⟩ := hh
    obtain ⟨-, -, v3, -⟩ := sNum_inr e6
    have S6 := C6.1
    have F7 : Fx (fun o _ => o = Q + 47 + 3 * M 412 11) h6 (h_si h6 (Q + 47 + 3 * M 412 11) 2 (nI v.1)) := Fx.si rfl
    have C7 := C6.qx hQ F7 (fun o k a => by omega)
    have b7 : h_iv (h_si h6 (Q + 47 + 3 * M 412 11) 2 (nI v.1)) (Q + 47 + 3 * M 412 11) 1 = nI u.1 := by rw [si_ne (by omega), R6.2.2.2.2.2.1 _ _ (by omega)]; exact b5
    have c7 : h_iv (h_si h6 (Q + 47 + 3 * M 412 11) 2 (nI v.1)) (Q + 47 + 3 * M 412 11) 2 = nI v.1 := si_at
    simp (maxSteps := 3000000) (disch := first | assumption | omega) only [c_cR_gi S6, g76, p_ek_pi S6 hQ, bO_v, bR_v, bX_l, bX_r, bC_l, bC_r, aLet_v, nI_add, pk_mul, dvI_n, rmI_n, iMax_n, iMin_n, zO_0, zO_1, li_0, li_1, li_2, li_3, li_4, li_5, li_6, li_7, li_8, li_9, li_10, li_12, li_14, li_15, li_16, li_18, li_19, li_20, li_22, li_23, li_24, li_26, li_29, li_30, li_31, li_32, li_36, li_38, li_48, li_50, li_57, li_58, li_59, li_60, li_63, li_97, li_99, li_120, li_122, li_144, li_168, li_194, li_240, li_255, li_284, li_299, li_603, li_999, li_1200, li_1440, li_4095, li_4096, li_6030, li_16384, li_20160, zl0, zl1, zl2, zl3, zl4, ze01, ze02, ze03, ze04, ze10, ze12, ze13, ze14, ze20, ze21, ze23, ze24, ze30, ze31, ze32, ze34, ze40, ze41, ze42, ze43, zt0, zt1, zt2, zt3, zt4, zq0, zq1, zq2, zq3, zq4, it_t, it_f, Bool.true_eq_false, Bool.false_eq_true, na5, na4, na1441, na2, na10, sx_IOIA, sx_IOIS, sx_IONS, sx_IAIO, sx_IAIS, sx_IANS, sx_ISIO, sx_ISIA, sx_ISNS, sx_NSIO, sx_NSIA, sx_NSIS, c_cR_gS C7.1]
    generalize h_si h6 (Q + 47 + 3 * M 412 11) 2 (nI v.1) = h7 at F7 C7 b7 c7
    refine sb_cp (k_number X hQ C7 (by omega) (by omega)) (fun x h8 e8 hh => ?_)
    obtain ⟨C8, R8, g78, -⟩ := hh
    obtain ⟨-, -, x3, -⟩ := sNum_inr e8
    have S8 := C8.1
    have F9 : Fx (fun o _ => o = Q + 47 + 3 * M 412 11) h8 (h_si h8 (Q + 47 + 3 * M 412 11) 3 (nI x.1)) := Fx.si rfl
    have C9 := C8.qx hQ F9 (fun o k a => by omega)
    have b9 : h_iv (h_si h8 (Q + 47 + 3 * M 412 11) 3 (nI x.1)) (Q + 47 + 3 * M 412 11) 1 = nI u.1 := by rw [si_ne (by omega), R8.2.2.2.2.2.1 _ _ (by omega)]; exact b7
    have c9 : h_iv (h_si h8 (Q + 47 + 3 * M 412 11) 3 (nI x.1)) (Q + 47 + 3 * M 412 11) 2 = nI v.1 := by rw [si_ne (by omega), R8.2.2.2.2.2.1 _ _ (by omega)]; exact c7
    have d9 : h_iv (h_si h8 (Q + 47 + 3 * M 412 11) 3 (nI x.1)) (Q + 47 + 3 * M 412 11) 3 = nI x.1 := si_at
    simp (maxSteps := 3000000) (disch := first | assumption | omega) only [c_cR_gi S8, g78, p_ek_pi S8 hQ, bO_v, bR_v, bX_l, bX_r, bC_l, bC_r, aLet_v, nI_add, pk_mul, dvI_n, rmI_n, iMax_n, iMin_n, zO_0, zO_1, li_0, li_1, li_2, li_3, li_4, li_5, li_6, li_7, li_8, li_9, li_10, li_12, li_14, li_15, li_16, li_18, li_19, li_20, li_22, li_23, li_24, li_26, li_29, li_30, li_31, li_32, li_36, li_38, li_48, li_50, li_57, li_58, li_59, li_60, li_63, li_97, li_99, li_120, li_122, li_144, li_168, li_194, li_240, li_255, li_284, li_299, li_603, li_999, li_1200, li_1440, li_4095, li_4096, li_6030, li_16384, li_20160, zl0, zl1, zl2, zl3, zl4, ze01, ze02, ze03, ze04, ze10, ze12, ze13, ze14, ze20, ze21, ze23, ze24, ze30, ze31, ze32, ze34, ze40, ze41, ze42, ze43, zt0, zt1, zt2, zt3, zt4, zq0, zq1, zq2, zq3, zq4, it_t, it_f, Bool.true_eq_false, Bool.false_eq_true, na5, na4, na1441, na2, na10, sx_IOIA, sx_IOIS, sx_IONS, sx_IAIO, sx_IAIS, sx_IANS, sx_ISIO, sx_ISIA, sx_ISNS, sx_NSIO, sx_NSIA, sx_NSIS, c_cR_gS C9.1]
    generalize h_si h8 (Q + 47 + 3 * M 412 11) 3 (nI x.1) = h9 at F9 C9 b9 c9 d9
    refine sb_cp (k_symbol X hQ C9 (t := 4) (Or.inr rfl)) (fun s3 h10 e10 hh => ?_)
    obtain ⟨C10, R10⟩ := hh
    have S10 := C10.1
    have W10 : QW (fun o _ => Q + 47 + 3 * M 412 11 ≤ o ∧ o ≤ Q + 49 + 3 * M 412 11) (Q + 47 + 3 * M 412 11) h2 h10 := ((((((QW.sL.trans R4.qw).trans (QW.fx (F5.mono (fun o k a => by omega)))).trans R6.qw).trans (QW.fx (F7.mono (fun o k a => by omega)))).trans R8.qw).trans (QW.fx (F9.mono (fun o k a => by omega)))).trans R10.qw
    have l10 : h_lv h10 (Q + 47 + 3 * M 412 11) 0 = lN (nm32 tx n (adv tx n s)) := by
      rw [R10.2.2.2.2.2.2 _ _ (by omega), F9.2.2.2.2.2.1, R8.2.2.2.2.2.2 _ _ (by omega), F7.2.2.2.2.2.1, R6.2.2.2.2.2.2 _ _ (by omega), F5.2.2.2.2.2.1, R4.2.2.2.2.2.2 _ _ (by omega)]
      exact sL_at
    have frA : ∀ o (k : Nat), Q + 47 + 3 * M 412 11 ≤ o ∧ o ≤ Q + 49 + 3 * M 412 11 → FrA Q M o := fun o k r => Or.inr (Or.inr ⟨hk6, r.1, r.2⟩)
    have frB : FrA Q M (Q + 47 + 3 * M 412 11) := frA _ 0 (by omega)
    have p10 := p2.qw W10 hD hQ frA frB
    have b10 : ∀ k, h_iv h10 (Q + 47 + 3 * M 412 11) k = h_iv h9 (Q + 47 + 3 * M 412 11) k := fun k => R10.2.2.2.2.2.1 _ _ (by omega)
    generalize hK : (fun (r : (Nat → Nat → Nat) × Nat) (h1 : aH) => CS tx n Q h0 h1 r.2 ∧ PQ tx n Q r.1 h1) = K
    generalize hM0 : put (put (put (put M 419 (23 + M 412 11) (adv tx n s)) 428 (M 412 11) u.1) 429 (M 412 11) v.1) 430 (M 412 11) x.1 = M0
    have e0 : ∀ o k, ¬ (o = 419 ∨ ((o = 428 ∨ o = 429 ∨ o = 430) ∧ k = M 412 11)) → M0 o k = M o k := fun o k r => by rw [← hM0, put_n (by omega), put_n (by omega), put_n (by omega), put_n (by omega)]
    have eK : nmN M 1 = M 412 9 := rfl
    have eE : nmN M 2 = M 412 10 := rfl
    obtain ⟨r, h11, e11, hh⟩ := k_diff X hQ C10 p10 hD (so := 1) (A := Q + 48 + 3 * M 412 11) (o := 432) (b := 6 * M 412 11) (len := 6) (M1 := M0) (by omega) hk6 (Or.inl rfl) (Nat.le_refl 6) (by rw [eK]; exact d1) (fun g G => p_ekg_ln G hQ hk6) (fun g G j hj => p_ekg_al G hQ hk6 hj) (fun g G j y hj => p_ekg_as G hQ hk6 y hj)
    rw [eK] at hh
    simp (maxSteps := 3000000) (disch := first | assumption | omega) only [p_ekg_p S10 hQ, bO_v, bR_v, bX_l, bX_r, bC_l, bC_r, aLet_v, nI_add, pk_mul, dvI_n, rmI_n, iMax_n, iMin_n, zO_0, zO_1, li_0, li_1, li_2, li_3, li_4, li_5, li_6, li_7, li_8, li_9, li_10, li_12, li_14, li_15, li_16, li_18, li_19, li_20, li_22, li_23, li_24, li_26, li_29, li_30, li_31, li_32, li_36, li_38, li_48, li_50, li_57, li_58, li_59, li_60, li_63, li_97, li_99, li_120, li_122, li_144, li_168, li_194, li_240, li_255, li_284, li_299, li_603, li_999, li_1200, li_1440, li_4095, li_4096, li_6030, li_16384, li_20160, zl0, zl1, zl2, zl3, zl4, ze01, ze02, ze03, ze04, ze10, ze12, ze13, ze14, ze20, ze21, ze23, ze24, ze30, ze31, ze32, ze34, ze40, ze41, ze42, ze43, zt0, zt1, zt2, zt3, zt4, zq0, zq1, zq2, zq3, zq4, it_t, it_f, Bool.true_eq_false, Bool.false_eq_true, na5, na4, na1441, na2, na10, sx_IOIA, sx_IOIS, sx_IONS, sx_IAIO, sx_IAIS, sx_IANS, sx_ISIO, sx_ISIA, sx_ISNS, sx_NSIO, sx_NSIA, sx_NSIS, c_cR_gS S10]
    rw [e11, bR_v]
    cases er : sDiff tx n M 1 (M 412 9) 432 (6 * M 412 11) (n + 2) M0 0 s3 with
    | inl e =>
      rw [er] at hh
      obtain ⟨rfl, q11⟩ := hh
      have S11 := q11.1
      have F12 : Fx (fun o _ => o = Q + 47 + 3 * M 412 11) h11 (h_si h11 (Q + 47 + 3 * M 412 11) 4 (-nI 1)) := Fx.si rfl
      have q12 := q11.qx hQ F12 (fun o k a => by omega)
      have g12 : h_iv (h_si h11 (Q + 47 + 3 * M 412 11) 4 (-nI 1)) (Q + 47 + 3 * M 412 11) 4 = -nI 1 := si_at
      simp (maxSteps := 3000000) (disch := first | assumption | omega) only [p_ek_pi S11 hQ, bO_v, bR_v, bX_l, bX_r, bC_l, bC_r, aJ_v, aLet_v, nI_add, pk_mul, dvI_n, rmI_n, iMax_n, iMin_n, zO_0, zO_1, li_0, li_1, li_2, li_3, li_4, li_5, li_6, li_7, li_8, li_9, li_10, li_12, li_14, li_15, li_16, li_18, li_19, li_20, li_22, li_23, li_24, li_26, li_29, li_30, li_31, li_32, li_36, li_38, li_48, li_50, li_57, li_58, li_59, li_60, li_63, li_97, li_99, li_120, li_122, li_144, li_168, li_194, li_240, li_255, li_284, li_299, li_603, li_999, li_1200, li_1440, li_4095, li_4096, li_6030, li_16384, li_20160, zl0, zl1, zl2, zl3, zl4, ze01, ze02, ze03, ze04, ze10, ze12, ze13, ze14, ze20, ze21, ze23, ze24, ze30, ze31, ze32, ze34, ze40, ze41, ze42, ze43, zt0, zt1, zt2, zt3, zt4, zq0, zq1, zq2, zq3, zq4, it_t, it_f, Bool.true_eq_false, Bool.false_eq_true, na5, na4, na1441, na2, na10, sx_IOIA, sx_IOIS, sx_IONS, sx_IAIO, sx_IAIS, sx_IANS, sx_ISIO, sx_ISIA, sx_ISNS, sx_NSIO, sx_NSIA, sx_NSIS, p_ek_gi q12.1 hQ, g12, eq_self]
      exact cp_inl rfl q12
    | inr a =>
      rw [er] at hh
      obtain ⟨rfl, C11, W11, n11⟩ := hh
      have S11 := C11.1
      obtain ⟨i1, i2, i3, i4, i5, i6⟩ := sDiff_inr C10.2.2.2.2.2.1 (Or.inr (by omega)) (fun j r => absurd r (Nat.not_lt_zero j)) (fun i j _ r => absurd r (Nat.not_lt_zero j)) er
      have k1 : a.2.1 ≤ M 412 9 := pig i5 i6
      have F12 : Fx (fun o _ => o = Q + 47 + 3 * M 412 11) h11 (h_si h11 (Q + 47 + 3 * M 412 11) 4 (nI a.2.1)) := Fx.si rfl
      have C12 := C11.qx hQ F12 (fun o k a => by omega)
      have g12 : h_iv (h_si h11 (Q + 47 + 3 * M 412 11) 4 (nI a.2.1)) (Q + 47 + 3 * M 412 11) 4 = nI a.2.1 := si_at
      have b12 : ∀ k, k ≠ 4 → h_iv (h_si h11 (Q + 47 + 3 * M 412 11) 4 (nI a.2.1)) (Q + 47 + 3 * M 412 11) k = h_iv h9 (Q + 47 + 3 * M 412 11) k := fun k hk => by rw [si_ne (by omega), W11.2.1 _ _ (by omega) (by omega)]; exact b10 k
      have n12 : ∀ j, j < a.2.1 → h_iv (h_si h11 (Q + 47 + 3 * M 412 11) 4 (nI a.2.1)) (Q + 48 + 3 * M 412 11) j = nI (a.1 432 (6 * M 412 11 + j)) := fun j hj => by rw [si_ne (by omega)]; exact n11 j hj
      have ne : (nI a.2.1 = -nI 1) = False := eq_false (fun q => by
        have h9 := congrArg Int32.toInt q
        rw [nI_toInt (by omega)] at h9
        have h10 : (-nI 1).toInt = -1 := by decide
        omega)
      simp (maxSteps := 3000000) (disch := first | assumption | omega) only [p_ek_pi S11 hQ, bO_v, bR_v, bX_l, bX_r, bC_l, bC_r, aJ_v, aLet_v, nI_add, pk_mul, dvI_n, rmI_n, iMax_n, iMin_n, zO_0, zO_1, li_0, li_1, li_2, li_3, li_4, li_5, li_6, li_7, li_8, li_9, li_10, li_12, li_14, li_15, li_16, li_18, li_19, li_20, li_22, li_23, li_24, li_26, li_29, li_30, li_31, li_32, li_36, li_38, li_48, li_50, li_57, li_58, li_59, li_60, li_63, li_97, li_99, li_120, li_122, li_144, li_168, li_194, li_240, li_255, li_284, li_299, li_603, li_999, li_1200, li_1440, li_4095, li_4096, li_6030, li_16384, li_20160, zl0, zl1, zl2, zl3, zl4, ze01, ze02, ze03, ze04, ze10, ze12, ze13, ze14, ze20, ze21, ze23, ze24, ze30, ze31, ze32, ze34, ze40, ze41, ze42, ze43, zt0, zt1, zt2, zt3, zt4, zq0, zq1, zq2, zq3, zq4, it_t, it_f, Bool.true_eq_false, Bool.false_eq_true, na5, na4, na1441, na2, na10, sx_IOIA, sx_IOIS, sx_IONS, sx_IAIO, sx_IAIS, sx_IANS, sx_ISIO, sx_ISIA, sx_ISNS, sx_NSIO, sx_NSIA, sx_NSIS, p_ek_gi C12.1 hQ, g12, ne, c_cR_gS C12.1]
      generalize h_si h11 (Q + 47 + 3 * M 412 11) 4 (nI a.2.1) = h12 at F12 C12 g12 b12 n12
      change CP Q h0 _ (sb (sSym tx n a.2.2 4) _) K
      refine sb_cp (k_symbol X hQ C12 (t := 4) (Or.inr rfl)) (fun s4 h14 e14 hh => ?_)
      obtain ⟨C14, R14⟩ := hh
      have S14 := C14.1
      have W14 : QW (fun o _ => Q + 47 + 3 * M 412 11 ≤ o ∧ o ≤ Q + 49 + 3 * M 412 11) (Q + 47 + 3 * M 412 11) h2 h14 := ((W10.trans (W11.weak.mono (fun o k r => by omega))).trans (QW.fx (F12.mono (fun o k r => by omega)))).trans R14.qw
      have p14 := p2.qw W14 hD hQ frA frB
      obtain ⟨r2, h15, e15, hh⟩ := k_diff X hQ C14 p14 hD (so := 2) (A := Q + 49 + 3 * M 412 11) (o := 434) (b := 5 * M 412 11) (len := 5) (M1 := put a.1 431 (M 412 11) a.2.1) (by omega) hk6 (Or.inr rfl) (by omega) (by rw [eE]; exact d2) (fun g G => p_eke_ln G hQ hk6) (fun g G j hj => p_eke_al G hQ hk6 hj) (fun g G j y hj => p_eke_as G hQ hk6 y hj)
      rw [eE] at hh
      simp (maxSteps := 3000000) (disch := first | assumption | omega) only [p_eke_p S14 hQ, bO_v, bR_v, bX_l, bX_r, bC_l, bC_r, aLet_v, nI_add, pk_mul, dvI_n, rmI_n, iMax_n, iMin_n, zO_0, zO_1, li_0, li_1, li_2, li_3, li_4, li_5, li_6, li_7, li_8, li_9, li_10, li_12, li_14, li_15, li_16, li_18, li_19, li_20, li_22, li_23, li_24, li_26, li_29, li_30, li_31, li_32, li_36, li_38, li_48, li_50, li_57, li_58, li_59, li_60, li_63, li_97, li_99, li_120, li_122, li_144, li_168, li_194, li_240, li_255, li_284, li_299, li_603, li_999, li_1200, li_1440, li_4095, li_4096, li_6030, li_16384, li_20160, zl0, zl1, zl2, zl3, zl4, ze01, ze02, ze03, ze04, ze10, ze12, ze13, ze14, ze20, ze21, ze23, ze24, ze30, ze31, ze32, ze34, ze40, ze41, ze42, ze43, zt0, zt1, zt2, zt3, zt4, zq0, zq1, zq2, zq3, zq4, it_t, it_f, Bool.true_eq_false, Bool.false_eq_true, na5, na4, na1441, na2, na10, sx_IOIA, sx_IOIS, sx_IONS, sx_IAIO, sx_IAIS, sx_IANS, sx_ISIO, sx_ISIA, sx_ISNS, sx_NSIO, sx_NSIA, sx_NSIS, c_cR_gS S14]
      rw [e15, bR_v]
      cases ez : sDiff tx n M 2 (M 412 10) 434 (5 * M 412 11) (n + 2) (put a.1 431 (M 412 11) a.2.1) 0 s4 with
      | inl e =>
        rw [ez] at hh
        obtain ⟨rfl, q15⟩ := hh
        have S15 := q15.1
        have F16 : Fx (fun o _ => o = Q + 47 + 3 * M 412 11) h15 (h_si h15 (Q + 47 + 3 * M 412 11) 6 (-nI 1)) := Fx.si rfl
        have q16 := q15.qx hQ F16 (fun o k a => by omega)
        have g16 : h_iv (h_si h15 (Q + 47 + 3 * M 412 11) 6 (-nI 1)) (Q + 47 + 3 * M 412 11) 6 = -nI 1 := si_at
        simp (maxSteps := 3000000) (disch := first | assumption | omega) only [p_ek_pi S15 hQ, bO_v, bR_v, bX_l, bX_r, bC_l, bC_r, aJ_v, aLet_v, nI_add, pk_mul, dvI_n, rmI_n, iMax_n, iMin_n, zO_0, zO_1, li_0, li_1, li_2, li_3, li_4, li_5, li_6, li_7, li_8, li_9, li_10, li_12, li_14, li_15, li_16, li_18, li_19, li_20, li_22, li_23, li_24, li_26, li_29, li_30, li_31, li_32, li_36, li_38, li_48, li_50, li_57, li_58, li_59, li_60, li_63, li_97, li_99, li_120, li_122, li_144, li_168, li_194, li_240, li_255, li_284, li_299, li_603, li_999, li_1200, li_1440, li_4095, li_4096, li_6030, li_16384, li_20160, zl0, zl1, zl2, zl3, zl4, ze01, ze02, ze03, ze04, ze10, ze12, ze13, ze14, ze20, ze21, ze23, ze24, ze30, ze31, ze32, ze34, ze40, ze41, ze42, ze43, zt0, zt1, zt2, zt3, zt4, zq0, zq1, zq2, zq3, zq4, it_t, it_f, Bool.true_eq_false, Bool.false_eq_true, na5, na4, na1441, na2, na10, sx_IOIA, sx_IOIS, sx_IONS, sx_IAIO, sx_IAIS, sx_IANS, sx_ISIO, sx_ISIA, sx_ISNS, sx_NSIO, sx_NSIA, sx_NSIS, p_ek_gi q16.1 hQ, g16, eq_self]
        exact cp_inl rfl q16
      | inr z =>
        rw [ez] at hh
        obtain ⟨rfl, C15, W15, n15⟩ := hh
        have S15 := C15.1
        obtain ⟨j1, j2, j3, j4, j5, j6⟩ := sDiff_inr C14.2.2.2.2.2.1 (Or.inr (by omega)) (fun j r => absurd r (Nat.not_lt_zero j)) (fun i j _ r => absurd r (Nat.not_lt_zero j)) ez
        have k2 : z.2.1 ≤ M 412 10 := pig j5 j6
        have F16 : Fx (fun o k => o = Q + 47 + 3 * M 412 11 ∨ (o = Q ∧ k = 9)) h15 (h_si h15 (Q + 47 + 3 * M 412 11) 6 (nI z.2.1)) := Fx.si (Or.inl rfl)
        have C16 := C15.qx hQ F16 (fun o k a => by omega)
        have g16 : h_iv (h_si h15 (Q + 47 + 3 * M 412 11) 6 (nI z.2.1)) (Q + 47 + 3 * M 412 11) 6 = nI z.2.1 := si_at
        have p15 := p2.qw (W14.trans (W15.weak.mono (fun o k r => by omega))) hD hQ frA frB
        have q9 : h_iv (h_si h15 (Q + 47 + 3 * M 412 11) 6 (nI z.2.1)) Q 9 = nI (M 412 11) := by rw [si_ne (by omega)]; exact p15.1.nK
        have ne2 : (nI z.2.1 = -nI 1) = False := eq_false (fun q => by
          have h9 := congrArg Int32.toInt q
          rw [nI_toInt (by omega)] at h9
          have h10 : (-nI 1).toInt = -1 := by decide
          omega)
        simp (maxSteps := 3000000) (disch := first | assumption | omega) only [p_ek_pi S15 hQ, bO_v, bR_v, bX_l, bX_r, bC_l, bC_r, aJ_v, aLet_v, nI_add, pk_mul, dvI_n, rmI_n, iMax_n, iMin_n, zO_0, zO_1, li_0, li_1, li_2, li_3, li_4, li_5, li_6, li_7, li_8, li_9, li_10, li_12, li_14, li_15, li_16, li_18, li_19, li_20, li_22, li_23, li_24, li_26, li_29, li_30, li_31, li_32, li_36, li_38, li_48, li_50, li_57, li_58, li_59, li_60, li_63, li_97, li_99, li_120, li_122, li_144, li_168, li_194, li_240, li_255, li_284, li_299, li_603, li_999, li_1200, li_1440, li_4095, li_4096, li_6030, li_16384, li_20160, zl0, zl1, zl2, zl3, zl4, ze01, ze02, ze03, ze04, ze10, ze12, ze13, ze14, ze20, ze21, ze23, ze24, ze30, ze31, ze32, ze34, ze40, ze41, ze42, ze43, zt0, zt1, zt2, zt3, zt4, zq0, zq1, zq2, zq3, zq4, it_t, it_f, Bool.true_eq_false, Bool.false_eq_true, na5, na4, na1441, na2, na10, sx_IOIA, sx_IOIS, sx_IONS, sx_IAIO, sx_IAIS, sx_IANS, sx_ISIO, sx_ISIA, sx_ISNS, sx_NSIO, sx_NSIA, sx_NSIS, p_ek_gi C16.1 hQ, g16, ne2, C16.g2 hQ, p_cP_gi C16.1 hQ, q9, p_cP_pi C16.1 hQ]
        have F17 : Fx (fun o k => o = Q + 47 + 3 * M 412 11 ∨ (o = Q ∧ k = 9)) h15 (h_si (h_si h15 (Q + 47 + 3 * M 412 11) 6 (nI z.2.1)) Q 9 (nI (M 412 11 + 1))) := F16.trans (Fx.si (Or.inr ⟨rfl, rfl⟩))
        have C17 := C15.qx hQ F17 (fun o k a => by omega)
        have f9 : h_iv (h_si (h_si h15 (Q + 47 + 3 * M 412 11) 6 (nI z.2.1)) Q 9 (nI (M 412 11 + 1))) Q 9 = nI (M 412 11 + 1) := si_at
        have f6 : h_iv (h_si (h_si h15 (Q + 47 + 3 * M 412 11) 6 (nI z.2.1)) Q 9 (nI (M 412 11 + 1))) (Q + 47 + 3 * M 412 11) 6 = nI z.2.1 := by rw [si_ne (by omega), si_at]
        have fB : ∀ k, k ≠ 6 → h_iv (h_si (h_si h15 (Q + 47 + 3 * M 412 11) 6 (nI z.2.1)) Q 9 (nI (M 412 11 + 1))) (Q + 47 + 3 * M 412 11) k = h_iv h12 (Q + 47 + 3 * M 412 11) k := fun k hk => by rw [si_ne (by omega), si_ne (by omega), W15.2.1 _ _ (by omega) (by omega), R14.2.2.2.2.2.1 _ _ (by omega)]
        have fG : ∀ k, h_iv (h_si (h_si h15 (Q + 47 + 3 * M 412 11) 6 (nI z.2.1)) Q 9 (nI (M 412 11 + 1))) (Q + 48 + 3 * M 412 11) k = h_iv h12 (Q + 48 + 3 * M 412 11) k := fun k => by rw [si_ne (by omega), si_ne (by omega), W15.2.1 _ _ (by omega) (by omega), R14.2.2.2.2.2.1 _ _ (by omega)]
        have fE : ∀ k, h_iv (h_si (h_si h15 (Q + 47 + 3 * M 412 11) 6 (nI z.2.1)) Q 9 (nI (M 412 11 + 1))) (Q + 49 + 3 * M 412 11) k = h_iv h15 (Q + 49 + 3 * M 412 11) k := fun k => by rw [si_ne (by omega), si_ne (by omega)]
        generalize h_si (h_si h15 (Q + 47 + 3 * M 412 11) 6 (nI z.2.1)) Q 9 (nI (M 412 11 + 1)) = h17 at F17 C17 f9 f6 fB fG fE
        obtain ⟨M', hM⟩ : ∃ M', M' = put (put z.1 433 (M 412 11) z.2.1) 412 11 (M 412 11 + 1) := ⟨_, rfl⟩
        have e : ∀ o k, ¬ ((o = 412 ∧ k = 11) ∨ o = 419 ∨ ((o = 428 ∨ o = 429 ∨ o = 430 ∨ o = 431 ∨ o = 433) ∧ k = M 412 11) ∨ (o = 432 ∧ 6 * M 412 11 ≤ k) ∨ (o = 434 ∧ 5 * M 412 11 ≤ k)) → M' o k = M o k := fun o k r => by
          rw [hM, put_n (by omega), put_n (by omega), j4 o k (by omega), put_n (by omega), i4 o k (by omega), e0 o k (by omega)]
        have mc : M' 412 11 = M 412 11 + 1 := by rw [hM]; exact put_e
        have m433 : M' 433 (M 412 11) = z.2.1 := by rw [hM, put_n (by omega), put_e]
        have m431 : M' 431 (M 412 11) = a.2.1 := by rw [hM, put_n (by omega), put_n (by omega), j4 _ _ (by omega), put_e]
        have m428 : M' 428 (M 412 11) = u.1 := by rw [hM, put_n (by omega), put_n (by omega), j4 _ _ (by omega), put_n (by omega), i4 _ _ (by omega), ← hM0, put_n (by omega), put_n (by omega), put_e]
        have m429 : M' 429 (M 412 11) = v.1 := by rw [hM, put_n (by omega), put_n (by omega), j4 _ _ (by omega), put_n (by omega), i4 _ _ (by omega), ← hM0, put_n (by omega), put_e]
        have m430 : M' 430 (M 412 11) = x.1 := by rw [hM, put_n (by omega), put_n (by omega), j4 _ _ (by omega), put_n (by omega), i4 _ _ (by omega), ← hM0, put_e]
        have m432 : ∀ j, M' 432 j = a.1 432 j := fun j => by rw [hM, put_n (by omega), put_n (by omega), j4 _ _ (by omega), put_n (by omega)]
        have m434 : ∀ j, M' 434 j = z.1 434 j := fun j => by rw [hM, put_n (by omega), put_n (by omega)]
        have m5 : ∀ k, M' 419 k = if k = nmB 3 + nmN M 3 then adv tx n s else M 419 k := fun k => by
          show M' 419 k = if k = 23 + M 412 11 then adv tx n s else M 419 k
          rw [hM, put_n (by omega), put_n (by omega), j4 _ _ (by omega), put_n (by omega), i4 _ _ (by omega), ← hM0, put_n (by omega), put_n (by omega), put_n (by omega)]
          by_cases r : k = 23 + M 412 11
          · rw [if_pos r, r, put_e]
          · rw [if_neg r, put_n (by omega)]
        have W15' : QW (fun o _ => Q + 47 + 3 * M 412 11 ≤ o ∧ o ≤ Q + 49 + 3 * M 412 11) (Q + 47 + 3 * M 412 11) h2 h15 := W14.trans (W15.weak.mono (fun o k r => by omega))
        have iv : ∀ o k, o ≠ 3 → ¬ (Q + 47 + 3 * M 412 11 ≤ o ∧ o ≤ Q + 49 + 3 * M 412 11) → ¬ (o = Q ∧ k = 9) → h_iv h17 o k = h_iv h2 o k := fun o k q1 q2 q4 => by rw [F17.iv (by omega), W15'.2.1 o k q1 q2]
        have lv : h_lv h17 = h_lv h15 := F17.2.2.2.2.2.1
        have l15 : h_lv h15 (Q + 47 + 3 * M 412 11) 0 = lN (nm32 tx n (adv tx n s)) := by
          rw [W15.2.2 _ _ (by omega) (by omega), R14.2.2.2.2.2.2 _ _ (by omega), F12.2.2.2.2.2.1, W11.2.2 _ _ (by omega) (by omega)]; exact l10
        have pq : PQ tx n Q M' h17 := by
          obtain ⟨y1, y2, y3, y4, y5⟩ := p2
          refine ⟨plr_addK hD y1 hk6 (fun o k q1 q2 q3 => iv o k (by omega) (by omega) (by omega)) e mc f9 ?_ ?_ ?_ ?_ (fun j hj => ?_) ?_ (fun j hj => ?_), nq_add (M := M) (sN := 3) (s1 := adv tx n s) ⟨y1, y2, y3, y4, y5⟩ hD (by omega) (show M 412 11 < 6 from hk6) mc (fun so q1 q2 => ?_) m5 nd ?_ (fun o q1 q2 q3 => ?_), ?_, fun k hk => ?_, fun g hg j hj => ?_⟩
          · rw [fB _ (by omega), b12 _ (by omega), b9, m428]
          · rw [fB _ (by omega), b12 _ (by omega), c9, m429]
          · rw [fB _ (by omega), b12 _ (by omega), d9, m430]
          · rw [fB _ (by omega), g12, m431]
          · rw [m431] at hj
            rw [fG, n12 j hj, m432]
          · rw [f6, m433]
          · rw [m433] at hj
            rw [fE, n15 j hj, m434]
          · rcases (show so = 0 ∨ so = 1 ∨ so = 2 by omega) with r | r | r <;> subst r
            · exact e 412 8 (by omega)
            · exact e 412 9 (by omega)
            · exact e 412 10 (by omega)
          · show h_lv h17 (Q + 47 + 3 * M 412 11) 0 = _
            rw [lv]; exact l15
          · have q1' : o ≠ Q + 47 + 3 * M 412 11 := q1
            rw [lv, W15'.2.2 o 0 (by omega) (by omega)]
          · rw [iv _ _ (by omega) (by omega) (by omega), e _ _ (by omega)]; exact y3
          · rw [iv _ _ (by omega) (by omega) (by omega), e 441 k (by omega), e 440 k (by omega)]; exact y4 k hk
          · rw [e 412 9 (by omega)] at hg
            rw [e 424 g (by omega)] at hj
            rw [iv _ _ (by omega) (by omega) (by omega), e 445 _ (by omega)]; exact y5 g hg j hj
        refine cp_inr (a := (M', z.2.2)) (by rw [hM]; rfl) ?_
        rw [← hK]
        exact ⟨C17, pq⟩
end
