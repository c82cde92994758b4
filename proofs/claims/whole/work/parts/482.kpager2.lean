/-! the class's reader: a pager, its rotation -/
theorem sb_sb {α β γ : Type} {x : ER ⊕ α} {f : α → ER ⊕ β} {g : β → ER ⊕ γ} : sb (sb x f) g = sb x (fun a => sb (f a) g) := by cases x <;> rfl
section
variable {h h0 : aH} {tx : Nat → Nat} {n Q s : Nat} {M : Nat → Nat → Nat}
theorem k_pager (X : TX tx n h0) (hQ : Q ∈ plL) (C : CS tx n Q h0 h s) (p : PQ tx n Q M h) (w : WM M) (hs : s < n) : CP Q h0 (m_X9_readsPager 3 h) (sPager tx n M s) (fun r h1 => CS tx n Q h0 h1 r.2 ∧ PQ tx n Q r.1 h1) := by
  have q := pl_in Q hQ
  have hD := w.1
  have d0 := hD.nP
  have d1 := hD.nG
  have d2 := hD.nE
  have d3 := hD.nK
  have S0 := C.1
  simp (maxSteps := 3000000) (disch := first | assumption | omega) only [m_X9_readsPager, bO_v, bR_v, bX_l, bX_r, bC_l, bC_r, aLet_v, nI_add, pk_mul, dvI_n, rmI_n, iMax_n, iMin_n, zO_0, zO_1, li_0, li_1, li_2, li_3, li_4, li_5, li_6, li_7, li_8, li_9, li_10, li_12, li_14, li_15, li_16, li_18, li_19, li_20, li_22, li_23, li_24, li_26, li_29, li_30, li_31, li_32, li_36, li_38, li_48, li_50, li_57, li_58, li_59, li_60, li_63, li_97, li_99, li_120, li_122, li_144, li_168, li_194, li_240, li_255, li_284, li_299, li_603, li_999, li_1200, li_1440, li_4095, li_4096, li_6030, li_16384, li_20160, zl0, zl1, zl2, zl3, zl4, ze01, ze02, ze03, ze04, ze10, ze12, ze13, ze14, ze20, ze21, ze23, ze24, ze30, ze31, ze32, ze34, ze40, ze41, ze42, ze43, zt0, zt1, zt2, zt3, zt4, zq0, zq1, zq2, zq3, zq4, it_t, it_f, Bool.true_eq_false, Bool.false_eq_true, na5, na4, na1441, na2, na10, sx_IOIA, sx_IOIS, sx_IONS, sx_IAIO, sx_IAIS, sx_IANS, sx_ISIO, sx_ISIA, sx_ISNS, sx_NSIO, sx_NSIA, sx_NSIS, C.g2 hQ, p_cP_gi S0 hQ, p.1.nG, nI_ltI, c_cR_gS S0]
  unfold sPager
  by_cases c12 : 6 ≤ M 412 9
  · rw [if_neg (by omega), if_pos c12]
    obtain ⟨h1, e1, q1, -⟩ := k_fails C (c := 5)
    simp (maxSteps := 3000000) (disch := first | assumption | omega) only [e1, bO_v, bR_v, bX_l, bX_r, bC_l, bC_r, aLet_v, nI_add, pk_mul, dvI_n, rmI_n, iMax_n, iMin_n, zO_0, zO_1, li_0, li_1, li_2, li_3, li_4, li_5, li_6, li_7, li_8, li_9, li_10, li_12, li_14, li_15, li_16, li_18, li_19, li_20, li_22, li_23, li_24, li_26, li_29, li_30, li_31, li_32, li_36, li_38, li_48, li_50, li_57, li_58, li_59, li_60, li_63, li_97, li_99, li_120, li_122, li_144, li_168, li_194, li_240, li_255, li_284, li_299, li_603, li_999, li_1200, li_1440, li_4095, li_4096, li_6030, li_16384, li_20160, zl0, zl1, zl2, zl3, zl4, ze01, ze02, ze03, ze04, ze10, ze12, ze13, ze14, ze20, ze21, ze23, ze24, ze30, ze31, ze32, ze34, ze40, ze41, ze42, ze43, zt0, zt1, zt2, zt3, zt4, zq0, zq1, zq2, zq3, zq4, it_t, it_f, Bool.true_eq_false, Bool.false_eq_true, na5, na4, na1441, na2, na10, sx_IOIA, sx_IOIS, sx_IONS, sx_IAIO, sx_IAIS, sx_IANS, sx_ISIO, sx_ISIA, sx_ISNS, sx_NSIO, sx_NSIA, sx_NSIS]
    exact cp_inl rfl q1
  · rw [if_pos (by omega), if_neg c12]
    obtain ⟨_, h1, e1, C1, R1, -⟩ := k_takeC X hQ C hs
    have S1 := C1.1
    have p1 := p.rf R1 hD hQ
    simp (maxSteps := 3000000) (disch := first | assumption | omega) only [e1, bO_v, bR_v, bX_l, bX_r, bC_l, bC_r, aLet_v, nI_add, pk_mul, dvI_n, rmI_n, iMax_n, iMin_n, zO_0, zO_1, li_0, li_1, li_2, li_3, li_4, li_5, li_6, li_7, li_8, li_9, li_10, li_12, li_14, li_15, li_16, li_18, li_19, li_20, li_22, li_23, li_24, li_26, li_29, li_30, li_31, li_32, li_36, li_38, li_48, li_50, li_57, li_58, li_59, li_60, li_63, li_97, li_99, li_120, li_122, li_144, li_168, li_194, li_240, li_255, li_284, li_299, li_603, li_999, li_1200, li_1440, li_4095, li_4096, li_6030, li_16384, li_20160, zl0, zl1, zl2, zl3, zl4, ze01, ze02, ze03, ze04, ze10, ze12, ze13, ze14, ze20, ze21, ze23, ze24, ze30, ze31, ze32, ze34, ze40, ze41, ze42, ze43, zt0, zt1, zt2, zt3, zt4, zq0, zq1, zq2, zq3, zq4, it_t, it_f, Bool.true_eq_false, Bool.false_eq_true, na5, na4, na1441, na2, na10, sx_IOIA, sx_IOIS, sx_IONS, sx_IAIO, sx_IAIS, sx_IANS, sx_ISIO, sx_ISIA, sx_ISNS, sx_NSIO, sx_NSIA, sx_NSIS, C1.g2 hQ, p_pgs S1 hQ, p_cP_gi S1 hQ, p1.1.nG, p_eg_al S1 hQ, c_cR_gS S1]
    refine sb_cp (k_newName X hQ C1 p1 hD (so := 1) (by omega)) (fun s2 h2 e2 hh => ?_)
    obtain ⟨C2, R2, g8⟩ := hh
    obtain ⟨nd, -⟩ := sNew_inr e2
    have S2 := C2.1
    have p2 := p1.rf R2 hD hQ
    have C3 := C2.sL (B := Q + 20 + 2 * M 412 9) (y := lN (nm32 tx n (adv tx n s))) (by omega)
    simp (maxSteps := 3000000) (disch := first | assumption | omega) only [c_cR_gL S2, g8, p_eg_pL S2 hQ, bO_v, bR_v, bX_l, bX_r, bC_l, bC_r, aLet_v, nI_add, pk_mul, dvI_n, rmI_n, iMax_n, iMin_n, zO_0, zO_1, li_0, li_1, li_2, li_3, li_4, li_5, li_6, li_7, li_8, li_9, li_10, li_12, li_14, li_15, li_16, li_18, li_19, li_20, li_22, li_23, li_24, li_26, li_29, li_30, li_31, li_32, li_36, li_38, li_48, li_50, li_57, li_58, li_59, li_60, li_63, li_97, li_99, li_120, li_122, li_144, li_168, li_194, li_240, li_255, li_284, li_299, li_603, li_999, li_1200, li_1440, li_4095, li_4096, li_6030, li_16384, li_20160, zl0, zl1, zl2, zl3, zl4, ze01, ze02, ze03, ze04, ze10, ze12, ze13, ze14, ze20, ze21, ze23, ze24, ze30, ze31, ze32, ze34, ze40, ze41, ze42, ze43, zt0, zt1, zt2, zt3, zt4, zq0, zq1, zq2, zq3, zq4, it_t, it_f, Bool.true_eq_false, Bool.false_eq_true, na5, na4, na1441, na2, na10, sx_IOIA, sx_IOIS, sx_IONS, sx_IAIO, sx_IAIS, sx_IANS, sx_ISIO, sx_ISIA, sx_ISNS, sx_NSIO, sx_NSIA, sx_NSIS, c_cR_gS C3.1]
    refine sb_cp (k_number X hQ C3 (by omega) (by omega)) (fun v h4 e4 hh => ?_)
    obtain ⟨C4, R4, g7, -⟩ := hh
    have S4 := C4.1
    have F5 : Fx (fun o _ => o = Q + 20 + 2 * M 412 9) h4 (h_si h4 (Q + 20 + 2 * M 412 9) 1 (nI v.1)) := Fx.si rfl
    have C5 := C4.qx hQ F5 (fun o k a => by omega)
    simp (maxSteps := 3000000) (disch := first | assumption | omega) only [c_cR_gi S4, g7, p_eg_pi S4 hQ, bO_v, bR_v, bX_l, bX_r, bC_l, bC_r, aLet_v, nI_add, pk_mul, dvI_n, rmI_n, iMax_n, iMin_n, zO_0, zO_1, li_0, li_1, li_2, li_3, li_4, li_5, li_6, li_7, li_8, li_9, li_10, li_12, li_14, li_15, li_16, li_18, li_19, li_20, li_22, li_23, li_24, li_26, li_29, li_30, li_31, li_32, li_36, li_38, li_48, li_50, li_57, li_58, li_59, li_60, li_63, li_97, li_99, li_120, li_122, li_144, li_168, li_194, li_240, li_255, li_284, li_299, li_603, li_999, li_1200, li_1440, li_4095, li_4096, li_6030, li_16384, li_20160, zl0, zl1, zl2, zl3, zl4, ze01, ze02, ze03, ze04, ze10, ze12, ze13, ze14, ze20, ze21, ze23, ze24, ze30, ze31, ze32, ze34, ze40, ze41, ze42, ze43, zt0, zt1, zt2, zt3, zt4, zq0, zq1, zq2, zq3, zq4, it_t, it_f, Bool.true_eq_false, Bool.false_eq_true, na5, na4, na1441, na2, na10, sx_IOIA, sx_IOIS, sx_IONS, sx_IAIO, sx_IAIS, sx_IANS, sx_ISIO, sx_ISIA, sx_ISNS, sx_NSIO, sx_NSIA, sx_NSIS, c_cR_gS C5.1]
    refine sb_cp (k_number X hQ C5 (by omega) (by omega)) (fun u h6 e6 hh => ?_)
    obtain ⟨C6, R6, g76, -⟩ := hh
    obtain ⟨-, -, u3, -⟩ := sNum_inr e6
    have S6 := C6.1
    have S7 : Sh (h_si h6 (Q + 20 + 2 * M 412 9) 2 (nI (60 * u.1))) := S6.si _ _ _
    simp (maxSteps := 3000000) (disch := first | assumption | omega) only [c_cR_gi S6, g76, p_eg_pi S6 hQ, p_eg_pi S7 hQ, bO_v, bR_v, bX_l, bX_r, bC_l, bC_r, aLet_v, nI_add, pk_mul, dvI_n, rmI_n, iMax_n, iMin_n, zO_0, zO_1, li_0, li_1, li_2, li_3, li_4, li_5, li_6, li_7, li_8, li_9, li_10, li_12, li_14, li_15, li_16, li_18, li_19, li_20, li_22, li_23, li_24, li_26, li_29, li_30, li_31, li_32, li_36, li_38, li_48, li_50, li_57, li_58, li_59, li_60, li_63, li_97, li_99, li_120, li_122, li_144, li_168, li_194, li_240, li_255, li_284, li_299, li_603, li_999, li_1200, li_1440, li_4095, li_4096, li_6030, li_16384, li_20160, zl0, zl1, zl2, zl3, zl4, ze01, ze02, ze03, ze04, ze10, ze12, ze13, ze14, ze20, ze21, ze23, ze24, ze30, ze31, ze32, ze34, ze40, ze41, ze42, ze43, zt0, zt1, zt2, zt3, zt4, zq0, zq1, zq2, zq3, zq4, it_t, it_f, Bool.true_eq_false, Bool.false_eq_true, na5, na4, na1441, na2, na10, sx_IOIA, sx_IOIS, sx_IONS, sx_IAIO, sx_IAIS, sx_IANS, sx_ISIO, sx_ISIA, sx_ISNS, sx_NSIO, sx_NSIA, sx_NSIS]
    have F8 : Fx (fun o _ => o = Q + 20 + 2 * M 412 9) h6 (h_si (h_si h6 (Q + 20 + 2 * M 412 9) 2 (nI (60 * u.1))) (Q + 20 + 2 * M 412 9) 3 (nI 0)) := (Fx.si (A := fun o _ => o = Q + 20 + 2 * M 412 9) rfl).trans (Fx.si (A := fun o _ => o = Q + 20 + 2 * M 412 9) rfl)
    have b1 : h_iv (h_si (h_si h6 (Q + 20 + 2 * M 412 9) 2 (nI (60 * u.1))) (Q + 20 + 2 * M 412 9) 3 (nI 0)) (Q + 20 + 2 * M 412 9) 1 = nI v.1 := by rw [si_ne (by omega), si_ne (by omega), R6.2.2.2.2.2.1 _ _ (by omega), si_at]
    have b2 : h_iv (h_si (h_si h6 (Q + 20 + 2 * M 412 9) 2 (nI (60 * u.1))) (Q + 20 + 2 * M 412 9) 3 (nI 0)) (Q + 20 + 2 * M 412 9) 2 = nI (60 * u.1) := by rw [si_ne (by omega), si_at]
    have b3 : h_iv (h_si (h_si h6 (Q + 20 + 2 * M 412 9) 2 (nI (60 * u.1))) (Q + 20 + 2 * M 412 9) 3 (nI 0)) (Q + 20 + 2 * M 412 9) 3 = nI 0 := si_at
    have W6 : QW (fun o _ => o = Q + 20 + 2 * M 412 9 ∨ o = Q + 21 + 2 * M 412 9) (Q + 20 + 2 * M 412 9) h2 (h_si (h_si h6 (Q + 20 + 2 * M 412 9) 2 (nI (60 * u.1))) (Q + 20 + 2 * M 412 9) 3 (nI 0)) := ((((QW.sL.trans R4.qw).trans (QW.fx (F5.mono (fun o k a => Or.inl a)))).trans R6.qw)).trans (QW.fx (F8.mono (fun o k a => Or.inl a)))
    have l6 : h_lv (h_si (h_si h6 (Q + 20 + 2 * M 412 9) 2 (nI (60 * u.1))) (Q + 20 + 2 * M 412 9) 3 (nI 0)) (Q + 20 + 2 * M 412 9) 0 = lN (nm32 tx n (adv tx n s)) := by
      rw [F8.2.2.2.2.2.1, R6.2.2.2.2.2.2 _ _ (by omega), F5.2.2.2.2.2.1, R4.2.2.2.2.2.2 _ _ (by omega)]
      exact sL_at
    generalize h_si (h_si h6 (Q + 20 + 2 * M 412 9) 2 (nI (60 * u.1))) (Q + 20 + 2 * M 412 9) 3 (nI 0) = h8 at F8 b1 b2 b3 W6 l6
    have C8 := C6.qx hQ F8 (fun o k a => by omega)
    generalize hK : (fun (r : (Nat → Nat → Nat) × Nat) (h1 : aH) => CS tx n Q h0 h1 r.2 ∧ PQ tx n Q r.1 h1) = K
    generalize hM0 : put (put (put M 419 (12 + M 412 9) (adv tx n s)) 422 (M 412 9) v.1) 423 (M 412 9) (60 * u.1) = M0
    have e0 : ∀ o k, ¬ (o = 419 ∨ ((o = 422 ∨ o = 423) ∧ k = M 412 9)) → M0 o k = M o k := fun o k r => by rw [← hM0, put_n (by omega), put_n (by omega), put_n (by omega)]
    have vs := C6.2.2.2.2.2.1
    refine aJ_gen (R := fun o => CP Q h0 o _ K) (fun k184 hk184 => ?_)
    refine aJ_gen (R := fun o => CP Q h0 o _ K) (fun k145 hk145 => ?_)
    refine aJ_gen (R := fun o => CP Q h0 o _ K) (fun k134 hk134 => ?_)
    refine aL1_run (R := fun o => CP Q h0 o (sb (sRot tx n M (M 412 9) (n + 2) M0 0 u.2) fun r => .inr (put (put r.1 424 (M 412 9) r.2.1) 412 9 (M 412 9 + 1), r.2.2)) K) (fun m s1 h9 => ∃ f c s' M1, m = f ∧ s1 = nI c ∧ c ≤ 8 ∧ n + 1 < s' + f ∧ sRot tx n M (M 412 9) (n + 2) M0 0 u.2 = sRot tx n M (M 412 9) f M1 c s' ∧ CS tx n Q h0 h9 s' ∧ QW (fun o _ => o = Q + 20 + 2 * M 412 9 ∨ o = Q + 21 + 2 * M 412 9) (Q + 20 + 2 * M 412 9) h2 h9 ∧ h_iv h9 (Q + 20 + 2 * M 412 9) 1 = nI v.1 ∧ h_iv h9 (Q + 20 + 2 * M 412 9) 2 = nI (60 * u.1) ∧ h_iv h9 (Q + 20 + 2 * M 412 9) 3 = nI c ∧ h_lv h9 (Q + 20 + 2 * M 412 9) 0 = lN (nm32 tx n (adv tx n s)) ∧ (∀ j, j < c → h_iv h9 (Q + 21 + 2 * M 412 9) j = nI (M1 445 (8 * M 412 9 + j))) ∧ ∀ o k, ¬ (o = 445 ∧ 8 * M 412 9 ≤ k) → M1 o k = M0 o k) ⟨n + 2, 0, u.2, M0, rfl, rfl, Nat.zero_le _, by omega, rfl, C8, W6, b1, b2, b3, l6, fun j r => absurd r (Nat.not_lt_zero j), fun _ _ _ => rfl⟩ (by have := X.1; omega) ?_
    rintro rec m s1 h9 ⟨f, c, s', M1, rfl, rfl, hc, hf, es, C9, W9, a1, a2, a3, a4, a5, a6⟩ ih
    have S9 := C9.1
    have sn := C9.2.2.2.2.2.1
    have t6 := tok_lt6 (tx := tx) (n := n) (s := s')
    cases m with
    | zero => omega
    | succ f =>
      have p9 := p2.qw W9 hD hQ (fun o k r => Or.inl ⟨by omega, r⟩) (Or.inl ⟨by omega, Or.inl rfl⟩)
      rw [es, sRot]
      simp (maxSteps := 3000000) (disch := first | assumption | omega) only [m_X9_readsPager_L107, bO_v, bR_v, bX_l, bX_r, bC_l, bC_r, aLet_v, nI_add, pk_mul, dvI_n, rmI_n, iMax_n, iMin_n, zO_0, zO_1, li_0, li_1, li_2, li_3, li_4, li_5, li_6, li_7, li_8, li_9, li_10, li_12, li_14, li_15, li_16, li_18, li_19, li_20, li_22, li_23, li_24, li_26, li_29, li_30, li_31, li_32, li_36, li_38, li_48, li_50, li_57, li_58, li_59, li_60, li_63, li_97, li_99, li_120, li_122, li_144, li_168, li_194, li_240, li_255, li_284, li_299, li_603, li_999, li_1200, li_1440, li_4095, li_4096, li_6030, li_16384, li_20160, zl0, zl1, zl2, zl3, zl4, ze01, ze02, ze03, ze04, ze10, ze12, ze13, ze14, ze20, ze21, ze23, ze24, ze30, ze31, ze32, ze34, ze40, ze41, ze42, ze43, zt0, zt1, zt2, zt3, zt4, zq0, zq1, zq2, zq3, zq4, it_t, it_f, Bool.true_eq_false, Bool.false_eq_true, na5, na4, na1441, na2, na10, sx_IOIA, sx_IOIS, sx_IONS, sx_IAIO, sx_IAIS, sx_IANS, sx_ISIO, sx_ISIA, sx_ISNS, sx_NSIO, sx_NSIA, sx_NSIS, nI_ltI, nI_eq, c_cR_gi S9, C9.2.2.2.2.1.1]
      rw [if_pos (show c < 1200 by omega)]
      refine aJ_gen (R := fun o => CP Q h0 o _ K) (fun k126 hk126 => ?_)
      by_cases ct : c ≠ 0 ∧ tok tx n s' ≠ 1
      · rw [if_pos ct, if_neg ct.1, if_neg ct.2, hk184]
        have C9g := C9.g2 hQ
        have c5 : h_iv h9 Q 5 = nI (M 412 9) := by rw [W9.2.1 _ _ (by omega) (by omega)]; exact p2.1.nG
        simp (maxSteps := 3000000) (disch := first | assumption | omega) only [C9g, p_cP_gi S9 hQ, c5, p_cP_pi S9 hQ, bO_v, bR_v, bX_l, bX_r, bC_l, bC_r, aLet_v, nI_add, pk_mul, dvI_n, rmI_n, iMax_n, iMin_n, zO_0, zO_1, li_0, li_1, li_2, li_3, li_4, li_5, li_6, li_7, li_8, li_9, li_10, li_12, li_14, li_15, li_16, li_18, li_19, li_20, li_22, li_23, li_24, li_26, li_29, li_30, li_31, li_32, li_36, li_38, li_48, li_50, li_57, li_58, li_59, li_60, li_63, li_97, li_99, li_120, li_122, li_144, li_168, li_194, li_240, li_255, li_284, li_299, li_603, li_999, li_1200, li_1440, li_4095, li_4096, li_6030, li_16384, li_20160, zl0, zl1, zl2, zl3, zl4, ze01, ze02, ze03, ze04, ze10, ze12, ze13, ze14, ze20, ze21, ze23, ze24, ze30, ze31, ze32, ze34, ze40, ze41, ze42, ze43, zt0, zt1, zt2, zt3, zt4, zq0, zq1, zq2, zq3, zq4, it_t, it_f, Bool.true_eq_false, Bool.false_eq_true, na5, na4, na1441, na2, na10, sx_IOIA, sx_IOIS, sx_IONS, sx_IAIO, sx_IAIS, sx_IANS, sx_ISIO, sx_ISIA, sx_ISNS, sx_NSIO, sx_NSIA, sx_NSIS]
        have F10 : Fx (fun o k => o = Q ∧ k = 5) h9 (h_si h9 Q 5 (nI (M 412 9 + 1))) := Fx.si ⟨rfl, rfl⟩
        have C10 := C9.qx hQ F10 (fun o k r => by omega)
        have g5 : h_iv (h_si h9 Q 5 (nI (M 412 9 + 1))) Q 5 = nI (M 412 9 + 1) := si_at
        generalize h_si h9 Q 5 (nI (M 412 9 + 1)) = h10 at F10 C10 g5
        obtain ⟨M', hM⟩ : ∃ M', M' = put (put M1 424 (M 412 9) c) 412 9 (M 412 9 + 1) := ⟨_, rfl⟩
        have e : ∀ o k, ¬ ((o = 412 ∧ k = 9) ∨ o = 419 ∨ ((o = 422 ∨ o = 423 ∨ o = 424) ∧ k = M 412 9) ∨ (o = 445 ∧ 8 * M 412 9 ≤ k)) → M' o k = M o k := fun o k r => by
          rw [hM, put_n (by omega), put_n (by omega), a6 o k (by omega), e0 o k (by omega)]
        have m9 : M' 412 9 = M 412 9 + 1 := by rw [hM]; exact put_e
        have m424 : M' 424 (M 412 9) = c := by rw [hM, put_n (by omega), put_e]
        have m445 : ∀ j, M' 445 j = M1 445 j := fun j => by rw [hM, put_n (by omega), put_n (by omega)]
        have m422 : M' 422 (M 412 9) = v.1 := by rw [hM, put_n (by omega), put_n (by omega), a6 _ _ (by omega), ← hM0, put_n (by omega), put_e]
        have m423 : M' 423 (M 412 9) = 60 * u.1 := by rw [hM, put_n (by omega), put_n (by omega), a6 _ _ (by omega), ← hM0, put_e]
        have m5 : ∀ k, M' 419 k = if k = nmB 1 + nmN M 1 then adv tx n s else M 419 k := fun k => by
          show M' 419 k = if k = 12 + M 412 9 then adv tx n s else M 419 k
          rw [hM, put_n (by omega), put_n (by omega), a6 _ _ (by omega), ← hM0, put_n (by omega), put_n (by omega)]
          by_cases r : k = 12 + M 412 9
          · rw [if_pos r, r, put_e]
          · rw [if_neg r, put_n (by omega)]
        have iv : ∀ o k, o ≠ 3 → o ≠ Q + 20 + 2 * M 412 9 → o ≠ Q + 21 + 2 * M 412 9 → ¬ (o = Q ∧ k = 5) → h_iv h10 o k = h_iv h2 o k := fun o k q1 q2 q3 q4 => by rw [F10.iv q4, W9.2.1 o k q1 (by omega)]
        have lv : h_lv h10 = h_lv h9 := F10.2.2.2.2.2.1
        have pq : PQ tx n Q M' h10 := by
          obtain ⟨y1, y2, y3, y4, y5⟩ := p2
          refine ⟨plr_addG hD y1 (by omega) (fun o k q1 q2 q3 => iv o k (by omega) (by omega) (by omega) (by omega)) e m9 g5 ?_ ?_ ?_, nq_add (M := M) (sN := 1) (s1 := adv tx n s) ⟨y1, y2, y3, y4, y5⟩ hD (by omega) (show M 412 9 < 6 by omega) m9 (fun so q1 q2 => ?_) m5 nd ?_ (fun o q1 q2 q3 => ?_), ?_, fun k hk => ?_, fun g hg j hj => ?_⟩
          · rw [F10.iv (by omega), a1, m422]
          · rw [F10.iv (by omega), a2, m423]
          · rw [F10.iv (by omega), a3, m424]
          · rcases (show so = 0 ∨ so = 2 ∨ so = 3 by omega) with r | r | r <;> subst r
            · exact e 412 8 (by omega)
            · exact e 412 10 (by omega)
            · exact e 412 11 (by omega)
          · show h_lv h10 (Q + 20 + 2 * M 412 9) 0 = _
            rw [lv]; exact a4
          · have q1' : o ≠ Q + 20 + 2 * M 412 9 := q1
            rw [lv, W9.2.2 o 0 (by omega) (by omega)]
          · rw [iv _ _ (by omega) (by omega) (by omega) (by omega), e _ _ (by omega)]; exact y3
          · rw [iv _ _ (by omega) (by omega) (by omega) (by omega), e 441 k (by omega), e 440 k (by omega)]; exact y4 k hk
          · rw [m9] at hg
            by_cases cg : g = M 412 9
            · rw [cg, m424] at hj
              rw [cg, F10.iv (by omega), m445]; exact a5 j hj
            · rw [e 424 g (by omega)] at hj
              have := hD.plc g (by omega)
              rw [iv _ _ (by omega) (by omega) (by omega) (by omega), e 445 _ (by omega)]; exact y5 g (by omega) j hj
        refine cp_inr (a := (M', s')) (by rw [hM]; rfl) ?_
        rw [← hK]
        exact ⟨C10, pq⟩
      · rw [if_neg ct, sb_sb]
        have go : CP Q h0 (k126 h9) (sb (sOf tx n M 0 (M 412 8) s') fun a => sb (if c = 8 then (.inl (5, s') : ER ⊕ ((Nat → Nat → Nat) × Nat × Nat)) else sRot tx n M (M 412 9) f (put M1 445 (8 * M 412 9 + c) a.1) (c + 1) a.2) fun r => .inr (put (put r.1 424 (M 412 9) r.2.1) 412 9 (M 412 9 + 1), r.2.2)) K := by
          rw [hk126]
          simp (maxSteps := 3000000) (disch := first | assumption | omega) only [c_cR_gS S9, hk134, bO_v, bR_v, bX_l, bX_r, bC_l, bC_r, aLet_v, nI_add, pk_mul, dvI_n, rmI_n, iMax_n, iMin_n, zO_0, zO_1, li_0, li_1, li_2, li_3, li_4, li_5, li_6, li_7, li_8, li_9, li_10, li_12, li_14, li_15, li_16, li_18, li_19, li_20, li_22, li_23, li_24, li_26, li_29, li_30, li_31, li_32, li_36, li_38, li_48, li_50, li_57, li_58, li_59, li_60, li_63, li_97, li_99, li_120, li_122, li_144, li_168, li_194, li_240, li_255, li_284, li_299, li_603, li_999, li_1200, li_1440, li_4095, li_4096, li_6030, li_16384, li_20160, zl0, zl1, zl2, zl3, zl4, ze01, ze02, ze03, ze04, ze10, ze12, ze13, ze14, ze20, ze21, ze23, ze24, ze30, ze31, ze32, ze34, ze40, ze41, ze42, ze43, zt0, zt1, zt2, zt3, zt4, zq0, zq1, zq2, zq3, zq4, it_t, it_f, Bool.true_eq_false, Bool.false_eq_true, na5, na4, na1441, na2, na10, sx_IOIA, sx_IOIS, sx_IONS, sx_IAIO, sx_IAIS, sx_IANS, sx_ISIO, sx_ISIA, sx_ISNS, sx_NSIO, sx_NSIA, sx_NSIS]
          refine sb_cp (k_nameOf X hQ C9 p9 hD (so := 0) (by omega)) (fun a h10 ea hh => ?_)
          obtain ⟨C10, R10, g710, g610, ha⟩ := hh
          have S10 := C10.1
          obtain ⟨b1', -, b3'⟩ := sOf_inr ea
          have ad := adv_gt (tx := tx) (nmd_in b1')
          have a310 : h_iv h10 (Q + 20 + 2 * M 412 9) 3 = nI c := by rw [R10.2.2.2.2.2.1 _ _ (by omega)]; exact a3
          simp (maxSteps := 3000000) (disch := first | assumption | omega) only [p_eg_gi S10 hQ, a310, nI_ltI, bO_v, bR_v, bX_l, bX_r, bC_l, bC_r, aLet_v, nI_add, pk_mul, dvI_n, rmI_n, iMax_n, iMin_n, zO_0, zO_1, li_0, li_1, li_2, li_3, li_4, li_5, li_6, li_7, li_8, li_9, li_10, li_12, li_14, li_15, li_16, li_18, li_19, li_20, li_22, li_23, li_24, li_26, li_29, li_30, li_31, li_32, li_36, li_38, li_48, li_50, li_57, li_58, li_59, li_60, li_63, li_97, li_99, li_120, li_122, li_144, li_168, li_194, li_240, li_255, li_284, li_299, li_603, li_999, li_1200, li_1440, li_4095, li_4096, li_6030, li_16384, li_20160, zl0, zl1, zl2, zl3, zl4, ze01, ze02, ze03, ze04, ze10, ze12, ze13, ze14, ze20, ze21, ze23, ze24, ze30, ze31, ze32, ze34, ze40, ze41, ze42, ze43, zt0, zt1, zt2, zt3, zt4, zq0, zq1, zq2, zq3, zq4, it_t, it_f, Bool.true_eq_false, Bool.false_eq_true, na5, na4, na1441, na2, na10, sx_IOIA, sx_IOIS, sx_IONS, sx_IAIO, sx_IAIS, sx_IANS, sx_ISIO, sx_ISIA, sx_ISNS, sx_NSIO, sx_NSIA, sx_NSIS]
          by_cases c8 : c = 8
          · rw [if_neg (by omega), if_pos c8, hk145]
            obtain ⟨h11, e11, q11, -⟩ := k_failsAt (c := 5) (p := s') S10 C10.2.1
            simp (maxSteps := 3000000) (disch := first | assumption | omega) only [c_cR_gi S10, g610, c_cR_gS S10, e11, bO_v, bR_v, bX_l, bX_r, bC_l, bC_r, aLet_v, nI_add, pk_mul, dvI_n, rmI_n, iMax_n, iMin_n, zO_0, zO_1, li_0, li_1, li_2, li_3, li_4, li_5, li_6, li_7, li_8, li_9, li_10, li_12, li_14, li_15, li_16, li_18, li_19, li_20, li_22, li_23, li_24, li_26, li_29, li_30, li_31, li_32, li_36, li_38, li_48, li_50, li_57, li_58, li_59, li_60, li_63, li_97, li_99, li_120, li_122, li_144, li_168, li_194, li_240, li_255, li_284, li_299, li_603, li_999, li_1200, li_1440, li_4095, li_4096, li_6030, li_16384, li_20160, zl0, zl1, zl2, zl3, zl4, ze01, ze02, ze03, ze04, ze10, ze12, ze13, ze14, ze20, ze21, ze23, ze24, ze30, ze31, ze32, ze34, ze40, ze41, ze42, ze43, zt0, zt1, zt2, zt3, zt4, zq0, zq1, zq2, zq3, zq4, it_t, it_f, Bool.true_eq_false, Bool.false_eq_true, na5, na4, na1441, na2, na10, sx_IOIA, sx_IOIS, sx_IONS, sx_IAIO, sx_IAIS, sx_IANS, sx_ISIO, sx_ISIA, sx_ISNS, sx_NSIO, sx_NSIA, sx_NSIS]
            exact cp_inl rfl q11
          · rw [if_pos (by omega), if_neg c8]
            have S11 : Sh (h_si h10 (Q + 21 + 2 * M 412 9) c (nI a.1)) := S10.si _ _ _
            have F11 : Fx (fun o _ => o = Q + 20 + 2 * M 412 9 ∨ o = Q + 21 + 2 * M 412 9) h10 (h_si h10 (Q + 21 + 2 * M 412 9) c (nI a.1)) := Fx.si (Or.inr rfl)
            have g11 : h_iv (h_si h10 (Q + 21 + 2 * M 412 9) c (nI a.1)) (Q + 20 + 2 * M 412 9) 3 = nI c := by rw [si_ne (by omega)]; exact a310
            simp (maxSteps := 3000000) (disch := first | assumption | omega) only [p_egr_p S10 hQ, c_cR_gi S10, g710, p_egr_as S10 hQ, p_eg_gi S11 hQ, g11, p_eg_pi S11 hQ, bO_v, bR_v, bX_l, bX_r, bC_l, bC_r, aLet_v, nI_add, pk_mul, dvI_n, rmI_n, iMax_n, iMin_n, zO_0, zO_1, li_0, li_1, li_2, li_3, li_4, li_5, li_6, li_7, li_8, li_9, li_10, li_12, li_14, li_15, li_16, li_18, li_19, li_20, li_22, li_23, li_24, li_26, li_29, li_30, li_31, li_32, li_36, li_38, li_48, li_50, li_57, li_58, li_59, li_60, li_63, li_97, li_99, li_120, li_122, li_144, li_168, li_194, li_240, li_255, li_284, li_299, li_603, li_999, li_1200, li_1440, li_4095, li_4096, li_6030, li_16384, li_20160, zl0, zl1, zl2, zl3, zl4, ze01, ze02, ze03, ze04, ze10, ze12, ze13, ze14, ze20, ze21, ze23, ze24, ze30, ze31, ze32, ze34, ze40, ze41, ze42, ze43, zt0, zt1, zt2, zt3, zt4, zq0, zq1, zq2, zq3, zq4, it_t, it_f, Bool.true_eq_false, Bool.false_eq_true, na5, na4, na1441, na2, na10, sx_IOIA, sx_IOIS, sx_IONS, sx_IAIO, sx_IAIS, sx_IANS, sx_ISIO, sx_ISIA, sx_ISNS, sx_NSIO, sx_NSIA, sx_NSIS]
            have F12 : Fx (fun o _ => o = Q + 20 + 2 * M 412 9 ∨ o = Q + 21 + 2 * M 412 9) h10 (h_si (h_si h10 (Q + 21 + 2 * M 412 9) c (nI a.1)) (Q + 20 + 2 * M 412 9) 3 (nI (c + 1))) := F11.trans (Fx.si (Or.inl rfl))
            have C12 := C10.qx hQ F12 (fun o k r => by omega)
            have e2 : sRot tx n M (M 412 9) (n + 2) M0 0 u.2 = sRot tx n M (M 412 9) f (put M1 445 (8 * M 412 9 + c) a.1) (c + 1) a.2 := by
              rw [es, sRot, if_neg ct, ea]
              show (if c = 8 then _ else _) = _
              rw [if_neg c8]
            rw [← e2]
            refine ih f _ _ (by omega) ⟨f, c + 1, a.2, _, rfl, rfl, by omega, by omega, e2, C12, (W9.trans R10.qw).trans (QW.fx F12), ?_, ?_, si_at, ?_, fun j hj => ?_, fun o k r => ?_⟩
            · rw [si_ne (by omega), si_ne (by omega), R10.2.2.2.2.2.1 _ _ (by omega)]; exact a1
            · rw [si_ne (by omega), si_ne (by omega), R10.2.2.2.2.2.1 _ _ (by omega)]; exact a2
            · show h_lv h10 _ 0 = _
              rw [R10.2.2.2.2.2.2 _ _ (by omega)]; exact a4
            · rw [si_ne (by omega)]
              by_cases cj : j = c
              · rw [cj, si_at, put_e]
              · rw [si_ne (by omega), put_n (by omega), R10.2.2.2.2.2.1 _ _ (by omega)]; exact a5 j (by omega)
            · rw [put_n (by omega)]; exact a6 o k r
        by_cases c0 : c = 0
        · rw [if_pos c0]; exact go
        · rw [if_neg c0]
          by_cases c1 : tok tx n s' = 1
          · rw [if_pos c1]; exact go
          · exact absurd ⟨c0, c1⟩ ct
end
