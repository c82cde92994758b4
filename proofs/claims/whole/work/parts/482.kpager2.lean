/-! the class's reader: a pager, its rotation -/
section
variable {h h0 : aH} {tx : Nat → Nat} {n Q s : Nat} {M : Nat → Nat → Nat}
theorem k_pager (X : TX tx n h0) (hQ : Q ∈ plL) (C : CS tx n Q h0 h s) (p : PQ tx n Q M h) (w : WM M) (hs : s < n) : CP Q h0 (m_X9_readsPager 3 h) (sPager tx n M s) (fun r h1 => CS tx n Q h0 h1 r.2 ∧ PQ tx n Q r.1 h1) := by
  have q := pl_in Q hQ
  have hD := w.1
  have d0 := hD.nP
  have d1 := hD.nG
  have d2 := hD.nE
  have d3 := hD.nK
  have S0 := C.1
  simp (maxSteps := 3000000) (disch := first | assumption | omega) only [m_X9_readsPager, bO_v, bR_v, bX_l, bX_r, bC_l, bC_r, aLet_v, nI_add, pk_mul, dvI_n, rmI_n, iMax_n, iMin_n, zO_0, zO_1, li_0, li_1, li_2, li_3, li_4, li_5, li_6, li_7, li_8, li_9, li_10, li_12, li_14, li_15, li_16, li_18, li_19, li_20, li_22, li_23, li_24, li_26, li_29, li_30, li_31, li_32, li_36, li_38, li_48, li_50, li_57, li_58, li_59, li_60, li_63, li_97, li_99, li_120, li_122, li_144, li_168, li_194, li_240, li_255, li_284, li_299, li_603, li_999, li_1200, li_1440, li_4095, li_4096, li_6030, li_16384, li_20160, zl0, zl1, zl2, zl3, zl4, ze01, ze02, ze03, ze04, ze10, ze12, ze13, ze14, ze20, ze21, ze23, ze24, ze30, ze31, ze32, ze34, ze40, ze41, ze42, ze43, zt0, zt1, zt2, zt3, zt4, zq0, zq1, zq2, zq3, zq4, it_t, it_f, Bool.true_eq_false, Bool.false_eq_true, na5, na4, na1441, na2, na10, sx_IOIA, sx_IOIS, sx_IONS, sx_IAIO, sx_IAIS, sx_IANS, sx_ISIO, sx_ISIA, sx_ISNS, sx_NSIO, sx_NSIA, sx_NSIS, C.g2 hQ, p_cP_gi S0 hQ, p.1.nG, nI_ltI, c_cR_gS S0]
  unfold sPager
  by_cases c12 : 6 ≤ M 398 9
  · rw [if_neg (by omega), if_pos c12]
    obtain ⟨h1, e1, q1, -⟩ := k_fails C (c := 5)
    simp (maxSteps := 3000000) (disch := first | assumption | omega) only [e1, bO_v, bR_v, bX_l, bX_r, bC_l, bC_r, aLet_v, nI_add, pk_mul, dvI_n, rmI_n, iMax_n, iMin_n, zO_0, zO_1, li_0, li_1, li_2, li_3, li_4, li_5, li_6, li_7, li_8, li_9, li_10, li_12, li_14, li_15, li_16, li_18, li_19, li_20, li_22, li_23, li_24, li_26, li_29, li_30, li_31, li_32, li_36, li_38, li_48, li_50, li_57, li_58, li_59, li_60, li_63, li_97, li_99, li_120, li_122, li_144, li_168, li_194, li_240, li_255, li_284, li_299, li_603, li_999, li_1200, li_1440, li_4095, li_4096, li_6030, li_16384, li_20160, zl0, zl1, zl2, zl3, zl4, ze01, ze02, ze03, ze04, ze10, ze12, ze13, ze14, ze20, ze21, ze23, ze24, ze30, ze31, ze32, ze34, ze40, ze41, ze42, ze43, zt0, zt1, zt2, zt3, zt4, zq0, zq1, zq2, zq3, zq4, it_t, it_f, Bool.true_eq_false, Bool.false_eq_true, na5, na4, na1441, na2, na10, sx_IOIA, sx_IOIS, sx_IONS, sx_IAIO, sx_IAIS, sx_IANS, sx_ISIO, sx_ISIA, sx_ISNS, sx_NSIO, sx_NSIA, sx_NSIS]
    exact cp_inl rfl q1
  · rw [if_pos (by omega), if_neg c12]
    obtain ⟨_, h1, e1, C1, R1, -⟩ := k_takeC X hQ C hs
    have S1 := C1.1
    have p1 := p.rf R1 hD hQ
    simp (maxSteps := 3000000) (disch := first | assumption | omega) only [e1, bO_v, bR_v, bX_l, bX_r, bC_l, bC_r, aLet_v, nI_add, pk_mul, dvI_n, rmI_n, iMax_n, iMin_n, zO_0, zO_1, li_0, li_1, li_2, li_3, li_4, li_5, li_6, li_7, li_8, li_9, li_10, li_12, li_14, li_15, li_16, li_18, li_19, li_20, li_22, li_23, li_24, li_26, li_29, li_30, li_31, li_32, li_36, li_38, li_48, li_50, li_57, li_58, li_59, li_60, li_63, li_97, li_99, li_120, li_122, li_144, li_168, li_194, li_240, li_255, li_284, li_299, li_603, li_999, li_1200, li_1440, li_4095, li_4096, li_6030, li_16384, li_20160, zl0, zl1, zl2, zl3, zl4, ze01, ze02, ze03, ze04, ze10, ze12, ze13, ze14, ze20, ze21, ze23, ze24, ze30, ze31, ze32, ze34, ze40, ze41, ze42, ze43, zt0, zt1, zt2, zt3, zt4, zq0, zq1, zq2, zq3, zq4, it_t, it_f, Bool.true_eq_false, Bool.false_eq_true, na5, na4, na1441, na2, na10, sx_IOIA, sx_IOIS, sx_IONS, sx_IAIO, sx_IAIS, sx_IANS, sx_ISIO, sx_ISIA, sx_ISNS, sx_NSIO, sx_NSIA, sx_NSIS, C1.g2 hQ, p_pgs S1 hQ, p_cP_gi S1 hQ, p1.1.nG, p_eg_al S1 hQ, c_cR_gS S1]
    refine sb_cp (k_newName X hQ C1 p1 hD (so := 1) (by omega)) (fun s2 h2 e2 hh => ?_)
    obtain ⟨C2, R2, g8⟩ := hh
    obtain ⟨nd, -⟩ := sNew_inr e2
    have S2 := C2.1
    have p2 := p1.rf R2 hD hQ
    have C3 := C2.sL (B := Q + 20 + 2 * M 398 9) (y := lN (nm32 tx n (adv tx n s))) (by omega)
    simp (maxSteps := 3000000) (disch := first | assumption | omega) only [c_cR_gL S2, g8, p_eg_pL S2 hQ, bO_v, bR_v, bX_l, bX_r, bC_l, bC_r, aLet_v, nI_add, pk_mul, dvI_n, rmI_n, iMax_n, iMin_n, zO_0, zO_1, li_0, li_1, li_2, li_3, li_4, li_5, li_6, li_7, li_8, li_9, li_10, li_12, li_14, li_15, li_16, li_18, li_19, li_20, li_22, li_23, li_24, li_26, li_29, li_30, li_31, li_32, li_36, li_38, li_48, li_50, li_57, li_58, li_59, li_60, li_63, li_97, li_99, li_120, li_122, li_144, li_168, li_194, li_240, li_255, li_284, li_299, li_603, li_999, li_1200, li_1440, li_4095, li_4096, li_6030, li_16384, li_20160, zl0, zl1, zl2, zl3, zl4, ze01, ze02, ze03, ze04, ze10, ze12, ze13, ze14, ze20, ze21, ze23, ze24, ze30, ze31, ze32, ze34, ze40, ze41, ze42, ze43, zt0, zt1, zt2, zt3, zt4, zq0, zq1, zq2, zq3, zq4, it_t, it_f, Bool.true_eq_false, Bool.false_eq_true, na5, na4, na1441, na2, na10, sx_IOIA, sx_IOIS, sx_IONS, sx_IAIO, sx_IAIS, sx_IANS, sx_ISIO, sx_ISIA, sx_ISNS, sx_NSIO, sx_NSIA, sx_NSIS, c_cR_gS C3.1]
    refine sb_cp (k_number X hQ C3 (by omega) (by omega)) (fun v h4 e4 hh => ?_)
    obtain ⟨C4, R4, g7, -⟩ := hh
    have S4 := C4.1
    have F5 : Fx (fun o _ => o = Q + 20 + 2 * M 398 9) h4 (h_si h4 (Q + 20 + 2 * M 398 9) 1 (nI v.1)) := Fx.si rfl
    have C5 := C4.qx hQ F5 (fun o k a => by omega)
    simp (maxSteps := 3000000) (disch := first | assumption | omega) only [c_cR_gi S4, g7, p_eg_pi S4 hQ, bO_v, bR_v, bX_l, bX_r, bC_l, bC_r, aLet_v, nI_add, pk_mul, dvI_n, rmI_n, iMax_n, iMin_n, zO_0, zO_1, li_0, li_1, li_2, li_3, li_4, li_5, li_6, li_7, li_8, li_9, li_10, li_12, li_14, li_15, li_16, li_18, li_19, li_20, li_22, li_23, li_24, li_26, li_29, li_30, li_31, li_32, li_36, li_38, li_48, li_50, li_57, li_58, li_59, li_60, li_63, li_97, li_99, li_120, li_122, li_144, li_168, li_194, li_240, li_255, li_284, li_299, li_603, li_999, li_1200, li_1440, li_4095, li_4096, li_6030, li_16384, li_20160, zl0, zl1, zl2, zl3, zl4, ze01, ze02, ze03, ze04, ze10, ze12, ze13, ze14, ze20, ze21, ze23, ze24, ze30, ze31, ze32, ze34, ze40, ze41, ze42, ze43, zt0, zt1, zt2, zt3, zt4, zq0, zq1, zq2, zq3, zq4, it_t, it_f, Bool.true_eq_false, Bool.false_eq_true, na5, na4, na1441, na2, na10, sx_IOIA, sx_IOIS, sx_IONS, sx_IAIO, sx_IAIS, sx_IANS, sx_ISIO, sx_ISIA, sx_ISNS, sx_NSIO, sx_NSIA, sx_NSIS, c_cR_gS C5.1]
    refine sb_cp (k_number X hQ C5 (by omega) (by omega)) (fun u h6 e6 hh => ?_)
    obtain ⟨C6, R6, g76, -⟩ := hh
    obtain ⟨-, -, u3, -⟩ := sNum_inr e6
    have S6 := C6.1
    have S7 : Sh (h_si h6 (Q + 20 + 2 * M 398 9) 2 (nI (60 * u.1))) := S6.si _ _ _
    simp (maxSteps := 3000000) (disch := first | assumption | omega) only [c_cR_gi S6, g76, p_eg_pi S6 hQ, p_eg_pi S7 hQ, bO_v, bR_v, bX_l, bX_r, bC_l, bC_r, aLet_v, nI_add, pk_mul, dvI_n, rmI_n, iMax_n, iMin_n, zO_0, zO_1, li_0, li_1, li_2, li_3, li_4, li_5, li_6, li_7, li_8, li_9, li_10, li_12, li_14, li_15, li_16, li_18, li_19, li_20, li_22, li_23, li_24, li_26, li_29, li_30, li_31, li_32, li_36, li_38, li_48, li_50, li_57, li_58, li_59, li_60, li_63, li_97, li_99, li_120, li_122, li_144, li_168, li_194, li_240, li_255, li_284, li_299, li_603, li_999, li_1200, li_1440, li_4095, li_4096, li_6030, li_16384, li_20160, zl0, zl1, zl2, zl3, zl4, ze01, ze02, ze03, ze04, ze10, ze12, ze13, ze14, ze20, ze21, ze23, ze24, ze30, ze31, ze32, ze34, ze40, ze41, ze42, ze43, zt0, zt1, zt2, zt3, zt4, zq0, zq1, zq2, zq3, zq4, it_t, it_f, Bool.true_eq_false, Bool.false_eq_true, na5, na4, na1441, na2, na10, sx_IOIA, sx_IOIS, sx_IONS, sx_IAIO, sx_IAIS, sx_IANS, sx_ISIO, sx_ISIA, sx_ISNS, sx_NSIO, sx_NSIA, sx_NSIS]
    have F8 : Fx (fun o _ => o = Q + 20 + 2 * M 398 9) h6 (h_si (h_si h6 (Q + 20 + 2 * M 398 9) 2 (nI (60 * u.1))) (Q + 20 + 2 * M 398 9) 3 (nI 0)) := (Fx.si (A := fun o _ => o = Q + 20 + 2 * M 398 9) rfl).trans (Fx.si (A := fun o _ => o = Q + 20 + 2 * M 398 9) rfl)
    have b1 : h_iv (h_si (h_si h6 (Q + 20 + 2 * M 398 9) 2 (nI (60 * u.1))) (Q + 20 + 2 * M 398 9) 3 (nI 0)) (Q + 20 + 2 * M 398 9) 1 = nI v.1 := by rw [si_ne (by omega), si_ne (by omega), R6.2.2.2.2.2.1 _ _ (by omega), si_at]
    have b2 : h_iv (h_si (h_si h6 (Q + 20 + 2 * M 398 9) 2 (nI (60 * u.1))) (Q + 20 + 2 * M 398 9) 3 (nI 0)) (Q + 20 + 2 * M 398 9) 2 = nI (60 * u.1) := by rw [si_ne (by omega), si_at]
    have b3 : h_iv (h_si (h_si h6 (Q + 20 + 2 * M 398 9) 2 (nI (60 * u.1))) (Q + 20 + 2 * M 398 9) 3 (nI 0)) (Q + 20 + 2 * M 398 9) 3 = nI 0 := si_at
    have W6 : QW (fun o _ => o = Q + 20 + 2 * M 398 9 ∨ o = Q + 21 + 2 * M 398 9) (Q + 20 + 2 * M 398 9) h2 (h_si (h_si h6 (Q + 20 + 2 * M 398 9) 2 (nI (60 * u.1))) (Q + 20 + 2 * M 398 9) 3 (nI 0)) := ((((QW.sL.trans R4.qw).trans (QW.fx (F5.mono (fun o k a => Or.inl a)))).trans R6.qw)).trans (QW.fx (F8.mono (fun o k a => Or.inl a)))
    have l6 : h_lv (h_si (h_si h6 (Q + 20 + 2 * M 398 9) 2 (nI (60 * u.1))) (Q + 20 + 2 * M 398 9) 3 (nI 0)) (Q + 20 + 2 * M 398 9) 0 = lN (nm32 tx n (adv tx n s)) := by
      rw [F8.2.2.2.2.2.1, R6.2.2.2.2.2.2 _ _ (by omega), F5.2.2.2.2.2.1, R4.2.2.2.2.2.2 _ _ (by omega)]
      exact sL_at
    generalize h_si (h_si h6 (Q + 20 + 2 * M 398 9) 2 (nI (60 * u.1))) (Q + 20 + 2 * M 398 9) 3 (nI 0) = h8 at F8 b1 b2 b3 W6 l6
    have C8 := C6.qx hQ F8 (fun o k a => by omega)
    generalize hK : (fun (r : (Nat → Nat → Nat) × Nat) (h1 : aH) => CS tx n Q h0 h1 r.2 ∧ PQ tx n Q r.1 h1) = K
    generalize hM0 : put (put (put M 405 (12 + M 398 9) (adv tx n s)) 408 (M 398 9) v.1) 409 (M 398 9) (60 * u.1) = M0
    have e0 : ∀ o k, ¬ (o = 405 ∨ ((o = 408 ∨ o = 409) ∧ k = M 398 9)) → M0 o k = M o k := fun o k r => by rw [← hM0, put_n (by omega), put_n (by omega), put_n (by omega)]
    have vs := C6.2.2.2.2.2.1
    refine aJ_gen (R := fun o => CP Q h0 o _ K) (fun k184 hk184 => ?_)
    refine aJ_gen (R := fun o => CP Q h0 o _ K) (fun k145 hk145 => ?_)
    refine aJ_gen (R := fun o => CP Q h0 o _ K) (fun k134 hk134 => ?_)
    refine aL1_run (R := fun o => CP Q h0 o (sb (sRot tx n M (M 398 9) (n + 2) M0 0 u.2) fun r => .inr (put (put r.1 410 (M 398 9) r.2.1) 398 9 (M 398 9 + 1), r.2.2)) K) (fun m s1 h9 => ∃ f c s' M1, m = f ∧ s1 = nI c ∧ c ≤ 8 ∧ n + 1 < s' + f ∧ sRot tx n M (M 398 9) (n + 2) M0 0 u.2 = sRot tx n M (M 398 9) f M1 c s' ∧ CS tx n Q h0 h9 s' ∧ QW (fun o _ => o = Q + 20 + 2 * M 398 9 ∨ o = Q + 21 + 2 * M 398 9) (Q + 20 + 2 * M 398 9) h2 h9 ∧ h_iv h9 (Q + 20 + 2 * M 398 9) 1 = nI v.1 ∧ h_iv h9 (Q + 20 + 2 * M 398 9) 2 = nI (60 * u.1) ∧ h_iv h9 (Q + 20 + 2 * M 398 9) 3 = nI c ∧ h_lv h9 (Q + 20 + 2 * M 398 9) 0 = lN (nm32 tx n (adv tx n s)) ∧ (∀ j, j < c → h_iv h9 (Q + 21 + 2 * M 398 9) j = nI (M1 431 (8 * M 398 9 + j))) ∧ ∀ o k, ¬ (o = 431 ∧ 8 * M 398 9 ≤ k) → M1 o k = M0 o k) ⟨n + 2, 0, u.2, M0, rfl, rfl, Nat.zero_le _, by omega, rfl, C8, W6, b1, b2, b3, l6, fun j r => absurd r (Nat.not_lt_zero j), fun _ _ _ => rfl⟩ (by have := X.1; omega) ?_
    rintro rec m s1 h9 ⟨f, c, s', M1, rfl, rfl, hc, hf, es, C9, W9, a1, a2, a3, a4, a5, a6⟩ ih
    have S9 := C9.1
    have sn := C9.2.2.2.2.2.1
    have t6 := tok_lt6 (tx := tx) (n := n) (s := s')
    cases m with
    | zero => omega
    | succ f =>
      sorry
end
