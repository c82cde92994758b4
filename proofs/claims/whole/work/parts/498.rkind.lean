/-! the reference's reader: a kind -/
section
variable {h h0 : aH} {tx : Nat → Nat} {n s : Nat} {M : Nat → Nat → Nat}
theorem y_kind (X : TR tx n h0) (w : WM M) (R : RM tx n M h) (G : GS tx n h0 h (adv tx n s)) (hc : M 412 11 < 6) : YP n h0 (m_X12_kind 412 h) (sKind tx n M s) (fun _ _ => True) (YI tx n h0) := by
  have hD := w.1
  have d0 := hD.nP
  have d1 := hD.nG
  have d2 := hD.nE
  have z : (nI 0 = nI 0) = True := eq_self _
  have z1 : (nI 1 = nI 0) = False := eq_false (by decide)
  have x1 := X.1
  have g1 := G.1
  unfold sKind
  rw [if_neg (by omega)]
  generalize hK : YI tx n h0 = K
  generalize hB : (fun (_ : Unit) (_ : aH) => True) = B
  obtain ⟨_, h1, e1, hh⟩ := y_newName X G (so := 3) (cnt := M 412 11) (R.2.2.2 3 (by omega)) (show 23 + M 412 11 < 29 by omega)
  change m_X12_newName 412 (nI 23) (nI (M 412 11)) h = _ at e1
  simp (maxSteps := 3000000) (disch := first | assumption | omega) only [m_X12_kind, bO_v, bR_v, bX_l, bX_r, bC_l, bC_r, aLet_v, nI_add, pk_mul, dvI_n, rmI_n, iMax_n, iMin_n, zO_0, zO_1, li_0, li_1, li_2, li_3, li_4, li_5, li_6, li_7, li_8, li_9, li_10, li_12, li_14, li_15, li_16, li_18, li_19, li_20, li_22, li_23, li_24, li_26, li_29, li_30, li_31, li_32, li_36, li_38, li_48, li_50, li_57, li_58, li_59, li_60, li_63, li_97, li_99, li_120, li_122, li_144, li_168, li_194, li_240, li_255, li_284, li_299, li_603, li_999, li_1200, li_1440, li_4095, li_4096, li_6030, li_16384, li_20160, zl0, zl1, zl2, zl3, zl4, ze01, ze02, ze03, ze04, ze10, ze12, ze13, ze14, ze20, ze21, ze23, ze24, ze30, ze31, ze32, ze34, ze40, ze41, ze42, ze43, zt0, zt1, zt2, zt3, zt4, zq0, zq1, zq2, zq3, zq4, it_t, it_f, Bool.true_eq_false, Bool.false_eq_true, na5, na4, na1441, na2, na10, sx_IOIA, sx_IOIS, sx_IONS, sx_IAIO, sx_IAIS, sx_IANS, sx_ISIO, sx_ISIA, sx_ISNS, sx_NSIO, sx_NSIA, sx_NSIS, li_23, r_cM_gi g1, R.1.2.2.2.2, r_cM_gS g1, e1]
  cases es : sNew tx n M 3 (M 412 11) (adv tx n s) with
  | inl e =>
    rw [es] at hh
    obtain ⟨b1, r1⟩ := hh
    have c1 : h_iv h1 412 43 = nI (M 412 11) := (r1 _ _ (by unfold RSx; omega)).trans R.1.2.2.2.2
    have bA := b1.si (o := 452) (k := M 412 11) (v := 0) (by unfold RX; omega) (by omega) (by omega)
    have cA : h_iv (h_si h1 452 (M 412 11) (nI 0)) 412 43 = nI (M 412 11) := by rw [si_ne (by omega)]; exact c1
    have bB := bA.si (o := 454) (k := M 412 11) (v := 0) (by unfold RX; omega) (by omega) (by omega)
    have cB : h_iv (h_si (h_si h1 452 (M 412 11) (nI 0)) 454 (M 412 11) (nI 0)) 412 43 = nI (M 412 11) := by rw [si_ne (by omega)]; exact cA
    simp (maxSteps := 3000000) (disch := first | assumption | omega) only [bO_v, bR_v, bX_l, bX_r, bC_l, bC_r, aJ_v, aLet_v, nI_add, pk_mul, dvI_n, rmI_n, iMax_n, iMin_n, zO_0, zO_1, li_0, li_1, li_2, li_3, li_4, li_5, li_6, li_7, li_8, li_9, li_10, li_12, li_14, li_15, li_16, li_18, li_19, li_20, li_22, li_23, li_24, li_26, li_29, li_30, li_31, li_32, li_36, li_38, li_48, li_50, li_57, li_58, li_59, li_60, li_63, li_97, li_99, li_120, li_122, li_144, li_168, li_194, li_240, li_255, li_284, li_299, li_603, li_999, li_1200, li_1440, li_4095, li_4096, li_6030, li_16384, li_20160, zl0, zl1, zl2, zl3, zl4, ze01, ze02, ze03, ze04, ze10, ze12, ze13, ze14, ze20, ze21, ze23, ze24, ze30, ze31, ze32, ze34, ze40, ze41, ze42, ze43, zt0, zt1, zt2, zt3, zt4, zq0, zq1, zq2, zq3, zq4, it_t, it_f, Bool.true_eq_false, Bool.false_eq_true, na5, na4, na1441, na2, na10, sx_IOIA, sx_IOIS, sx_IONS, sx_IAIO, sx_IAIS, sx_IANS, sx_ISIO, sx_ISIA, sx_ISNS, sx_NSIO, sx_NSIA, sx_NSIS,  r_cM_gi b1.1, b1.2.2.2.1, z1, y_k95 b1, r_p452 b1.1, c1, r_c452_as b1.1, r_cM_gi bA.1, bA.2.2.2.1, y_k219 bA, r_p454 bA.1, cA, r_c454_as bA.1, r_cM_gi bB.1, cB, r_cM_pi bB.1]
    rw [← hB, ← hK]
    exact yi_bad (bB.si (by unfold RX; omega) (by omega) (by omega)) (Or.inl rfl)
  | inr s2 =>
    rw [es] at hh
    obtain ⟨G1, N1, l1, nd⟩ := hh
    have S1 := G1.1
    have c1 : h_iv h1 412 43 = nI (M 412 11) := (N1.2.2.2.2.2.1 _ _ (by unfold RSx; omega)).trans R.1.2.2.2.2
    obtain ⟨r, h2, e2, hh⟩ := y_number X G1 (lo := 1) (hi := 999) (by omega) (by omega)
    change YP n h0 _ (sb (sNum tx n s2 1 999) _) _ _
    simp (maxSteps := 3000000) (disch := first | assumption | omega) only [bO_v, bR_v, bX_l, bX_r, bC_l, bC_r, aLet_v, nI_add, pk_mul, dvI_n, rmI_n, iMax_n, iMin_n, zO_0, zO_1, li_0, li_1, li_2, li_3, li_4, li_5, li_6, li_7, li_8, li_9, li_10, li_12, li_14, li_15, li_16, li_18, li_19, li_20, li_22, li_23, li_24, li_26, li_29, li_30, li_31, li_32, li_36, li_38, li_48, li_50, li_57, li_58, li_59, li_60, li_63, li_97, li_99, li_120, li_122, li_144, li_168, li_194, li_240, li_255, li_284, li_299, li_603, li_999, li_1200, li_1440, li_4095, li_4096, li_6030, li_16384, li_20160, zl0, zl1, zl2, zl3, zl4, ze01, ze02, ze03, ze04, ze10, ze12, ze13, ze14, ze20, ze21, ze23, ze24, ze30, ze31, ze32, ze34, ze40, ze41, ze42, ze43, zt0, zt1, zt2, zt3, zt4, zq0, zq1, zq2, zq3, zq4, it_t, it_f, Bool.true_eq_false, Bool.false_eq_true, na5, na4, na1441, na2, na10, sx_IOIA, sx_IOIS, sx_IONS, sx_IAIO, sx_IAIS, sx_IANS, sx_ISIO, sx_ISIA, sx_ISNS, sx_NSIO, sx_NSIA, sx_NSIS, r_cM_gi S1, G1.2.2.2.1, z, r_p449 S1, c1, r_cM_gS S1, e2]
    refine aJ_gen (R := fun o => YP n h0 o _ B K) (fun k34 hk34 => ?_)
    cases eu : sNum tx n s2 1 999 with
    | inl e =>
      rw [eu] at hh
      obtain ⟨b2, Z2, v, hv, rfl⟩ := hh
      have c2 : h_iv h2 412 43 = nI (M 412 11) := (Z2.ri _ _ (by unfold RSx; omega)).trans c1
      have b3 := b2.si (o := 449) (k := M 412 11) (v := v) (by unfold RX; omega) (by omega) (by omega)
      have c3 : h_iv (h_si h2 449 (M 412 11) (nI v)) 412 43 = nI (M 412 11) := by rw [si_ne (by omega)]; exact c2
      have bA := b3.si (o := 452) (k := M 412 11) (v := 0) (by unfold RX; omega) (by omega) (by omega)
      have cA : h_iv (h_si (h_si h2 449 (M 412 11) (nI v)) 452 (M 412 11) (nI 0)) 412 43 = nI (M 412 11) := by rw [si_ne (by omega)]; exact c3
      have bB := bA.si (o := 454) (k := M 412 11) (v := 0) (by unfold RX; omega) (by omega) (by omega)
      have cB : h_iv (h_si (h_si (h_si h2 449 (M 412 11) (nI v)) 452 (M 412 11) (nI 0)) 454 (M 412 11) (nI 0)) 412 43 = nI (M 412 11) := by rw [si_ne (by omega)]; exact cA
      simp (maxSteps := 3000000) (disch := first | assumption | omega) only [bO_v, bR_v, bX_l, bX_r, bC_l, bC_r, aJ_v, aLet_v, nI_add, pk_mul, dvI_n, rmI_n, iMax_n, iMin_n, zO_0, zO_1, li_0, li_1, li_2, li_3, li_4, li_5, li_6, li_7, li_8, li_9, li_10, li_12, li_14, li_15, li_16, li_18, li_19, li_20, li_22, li_23, li_24, li_26, li_29, li_30, li_31, li_32, li_36, li_38, li_48, li_50, li_57, li_58, li_59, li_60, li_63, li_97, li_99, li_120, li_122, li_144, li_168, li_194, li_240, li_255, li_284, li_299, li_603, li_999, li_1200, li_1440, li_4095, li_4096, li_6030, li_16384, li_20160, zl0, zl1, zl2, zl3, zl4, ze01, ze02, ze03, ze04, ze10, ze12, ze13, ze14, ze20, ze21, ze23, ze24, ze30, ze31, ze32, ze34, ze40, ze41, ze42, ze43, zt0, zt1, zt2, zt3, zt4, zq0, zq1, zq2, zq3, zq4, it_t, it_f, Bool.true_eq_false, Bool.false_eq_true, na5, na4, na1441, na2, na10, sx_IOIA, sx_IOIS, sx_IONS, sx_IAIO, sx_IAIS, sx_IANS, sx_ISIO, sx_ISIA, sx_ISNS, sx_NSIO, sx_NSIA, sx_NSIS, r_c449_as b2.1, hk34, r_cM_gi b3.1, b3.2.2.2.1, z1, y_k95 b3, r_p452 b3.1, c3, r_c452_as b3.1, r_cM_gi bA.1, bA.2.2.2.1, y_k219 bA, r_p454 bA.1, cA, r_c454_as bA.1, r_cM_gi bB.1, cB, r_cM_pi bB.1]
      rw [← hB, ← hK]
      exact yi_bad (bB.si (by unfold RX; omega) (by omega) (by omega)) (Or.inl rfl)
    | inr u =>
      rw [eu] at hh
      obtain ⟨G2, Z2, rfl, -⟩ := hh
      obtain ⟨-, -, u3, -⟩ := sNum_inr eu
      have S2 := G2.1
      have c2 : h_iv h2 412 43 = nI (M 412 11) := (Z2.ri _ _ (by unfold RSx; omega)).trans c1
      have G3 := G2.si (o := 449) (k := M 412 11) (v := u.1) (by unfold RX; omega) (by omega) (by omega)
      have c3 : h_iv (h_si h2 449 (M 412 11) (nI u.1)) 412 43 = nI (M 412 11) := by rw [si_ne (by omega)]; exact c2
      obtain ⟨r, h4, e4, hh⟩ := y_number X G3 (lo := 0) (hi := 240) (by omega) (by omega)
      change YP n h0 _ (sb (sNum tx n u.2 0 240) _) _ _
      simp (maxSteps := 3000000) (disch := first | assumption | omega) only [bO_v, bR_v, bX_l, bX_r, bC_l, bC_r, aLet_v, nI_add, pk_mul, dvI_n, rmI_n, iMax_n, iMin_n, zO_0, zO_1, li_0, li_1, li_2, li_3, li_4, li_5, li_6, li_7, li_8, li_9, li_10, li_12, li_14, li_15, li_16, li_18, li_19, li_20, li_22, li_23, li_24, li_26, li_29, li_30, li_31, li_32, li_36, li_38, li_48, li_50, li_57, li_58, li_59, li_60, li_63, li_97, li_99, li_120, li_122, li_144, li_168, li_194, li_240, li_255, li_284, li_299, li_603, li_999, li_1200, li_1440, li_4095, li_4096, li_6030, li_16384, li_20160, zl0, zl1, zl2, zl3, zl4, ze01, ze02, ze03, ze04, ze10, ze12, ze13, ze14, ze20, ze21, ze23, ze24, ze30, ze31, ze32, ze34, ze40, ze41, ze42, ze43, zt0, zt1, zt2, zt3, zt4, zq0, zq1, zq2, zq3, zq4, it_t, it_f, Bool.true_eq_false, Bool.false_eq_true, na5, na4, na1441, na2, na10, sx_IOIA, sx_IOIS, sx_IONS, sx_IAIO, sx_IAIS, sx_IANS, sx_ISIO, sx_ISIA, sx_ISNS, sx_NSIO, sx_NSIA, sx_NSIS, r_c449_as S2, hk34, r_cM_gi G3.1, G3.2.2.2.1, z, r_p450 G3.1, c3, r_cM_gS G3.1, e4]
      refine aJ_gen (R := fun o => YP n h0 o _ B K) (fun k58 hk58 => ?_)
      cases ev : sNum tx n u.2 0 240 with
      | inl e =>
        rw [ev] at hh
        obtain ⟨b4, Z4, v, hv, rfl⟩ := hh
        have c4 : h_iv h4 412 43 = nI (M 412 11) := (Z4.ri _ _ (by unfold RSx; omega)).trans c3
        have b5 := b4.si (o := 450) (k := M 412 11) (v := v) (by unfold RX; omega) (by omega) (by omega)
        have c5 : h_iv (h_si h4 450 (M 412 11) (nI v)) 412 43 = nI (M 412 11) := by rw [si_ne (by omega)]; exact c4
        have bA := b5.si (o := 452) (k := M 412 11) (v := 0) (by unfold RX; omega) (by omega) (by omega)
        have cA : h_iv (h_si (h_si h4 450 (M 412 11) (nI v)) 452 (M 412 11) (nI 0)) 412 43 = nI (M 412 11) := by rw [si_ne (by omega)]; exact c5
        have bB := bA.si (o := 454) (k := M 412 11) (v := 0) (by unfold RX; omega) (by omega) (by omega)
        have cB : h_iv (h_si (h_si (h_si h4 450 (M 412 11) (nI v)) 452 (M 412 11) (nI 0)) 454 (M 412 11) (nI 0)) 412 43 = nI (M 412 11) := by rw [si_ne (by omega)]; exact cA
        simp (maxSteps := 3000000) (disch := first | assumption | omega) only [bO_v, bR_v, bX_l, bX_r, bC_l, bC_r, aJ_v, aLet_v, nI_add, pk_mul, dvI_n, rmI_n, iMax_n, iMin_n, zO_0, zO_1, li_0, li_1, li_2, li_3, li_4, li_5, li_6, li_7, li_8, li_9, li_10, li_12, li_14, li_15, li_16, li_18, li_19, li_20, li_22, li_23, li_24, li_26, li_29, li_30, li_31, li_32, li_36, li_38, li_48, li_50, li_57, li_58, li_59, li_60, li_63, li_97, li_99, li_120, li_122, li_144, li_168, li_194, li_240, li_255, li_284, li_299, li_603, li_999, li_1200, li_1440, li_4095, li_4096, li_6030, li_16384, li_20160, zl0, zl1, zl2, zl3, zl4, ze01, ze02, ze03, ze04, ze10, ze12, ze13, ze14, ze20, ze21, ze23, ze24, ze30, ze31, ze32, ze34, ze40, ze41, ze42, ze43, zt0, zt1, zt2, zt3, zt4, zq0, zq1, zq2, zq3, zq4, it_t, it_f, Bool.true_eq_false, Bool.false_eq_true, na5, na4, na1441, na2, na10, sx_IOIA, sx_IOIS, sx_IONS, sx_IAIO, sx_IAIS, sx_IANS, sx_ISIO, sx_ISIA, sx_ISNS, sx_NSIO, sx_NSIA, sx_NSIS, r_c450_as b4.1, hk58, r_cM_gi b5.1, b5.2.2.2.1, z1, y_k95 b5, r_p452 b5.1, c5, r_c452_as b5.1, r_cM_gi bA.1, bA.2.2.2.1, y_k219 bA, r_p454 bA.1, cA, r_c454_as bA.1, r_cM_gi bB.1, cB, r_cM_pi bB.1]
        rw [← hB, ← hK]
        exact yi_bad (bB.si (by unfold RX; omega) (by omega) (by omega)) (Or.inl rfl)
      | inr v =>
        rw [ev] at hh
        obtain ⟨G4, Z4, rfl, -⟩ := hh
        obtain ⟨-, -, v3, -⟩ := sNum_inr ev
        have S4 := G4.1
        have c4 : h_iv h4 412 43 = nI (M 412 11) := (Z4.ri _ _ (by unfold RSx; omega)).trans c3
        have G5 := G4.si (o := 450) (k := M 412 11) (v := v.1) (by unfold RX; omega) (by omega) (by omega)
        have c5 : h_iv (h_si h4 450 (M 412 11) (nI v.1)) 412 43 = nI (M 412 11) := by rw [si_ne (by omega)]; exact c4
        obtain ⟨r, h6, e6, hh⟩ := y_number X G5 (lo := 1) (hi := 5) (by omega) (by omega)
        change YP n h0 _ (sb (sNum tx n v.2 1 5) _) _ _
        simp (maxSteps := 3000000) (disch := first | assumption | omega) only [bO_v, bR_v, bX_l, bX_r, bC_l, bC_r, aLet_v, nI_add, pk_mul, dvI_n, rmI_n, iMax_n, iMin_n, zO_0, zO_1, li_0, li_1, li_2, li_3, li_4, li_5, li_6, li_7, li_8, li_9, li_10, li_12, li_14, li_15, li_16, li_18, li_19, li_20, li_22, li_23, li_24, li_26, li_29, li_30, li_31, li_32, li_36, li_38, li_48, li_50, li_57, li_58, li_59, li_60, li_63, li_97, li_99, li_120, li_122, li_144, li_168, li_194, li_240, li_255, li_284, li_299, li_603, li_999, li_1200, li_1440, li_4095, li_4096, li_6030, li_16384, li_20160, zl0, zl1, zl2, zl3, zl4, ze01, ze02, ze03, ze04, ze10, ze12, ze13, ze14, ze20, ze21, ze23, ze24, ze30, ze31, ze32, ze34, ze40, ze41, ze42, ze43, zt0, zt1, zt2, zt3, zt4, zq0, zq1, zq2, zq3, zq4, it_t, it_f, Bool.true_eq_false, Bool.false_eq_true, na5, na4, na1441, na2, na10, sx_IOIA, sx_IOIS, sx_IONS, sx_IAIO, sx_IAIS, sx_IANS, sx_ISIO, sx_ISIA, sx_ISNS, sx_NSIO, sx_NSIA, sx_NSIS, r_c450_as S4, hk58, r_cM_gi G5.1, G5.2.2.2.1, z, r_p451 G5.1, c5, r_cM_gS G5.1, e6]
        refine aJ_gen (R := fun o => YP n h0 o _ B K) (fun k80 hk80 => ?_)
        cases ex : sNum tx n v.2 1 5 with
        | inl e =>
          rw [ex] at hh
          obtain ⟨b6, Z6, x, hx, rfl⟩ := hh
          have c6 : h_iv h6 412 43 = nI (M 412 11) := (Z6.ri _ _ (by unfold RSx; omega)).trans c5
          have b7 := b6.si (o := 451) (k := M 412 11) (v := x) (by unfold RX; omega) (by omega) (by omega)
          have c7 : h_iv (h_si h6 451 (M 412 11) (nI x)) 412 43 = nI (M 412 11) := by rw [si_ne (by omega)]; exact c6
          have bA := b7.si (o := 452) (k := M 412 11) (v := 0) (by unfold RX; omega) (by omega) (by omega)
          have cA : h_iv (h_si (h_si h6 451 (M 412 11) (nI x)) 452 (M 412 11) (nI 0)) 412 43 = nI (M 412 11) := by rw [si_ne (by omega)]; exact c7
          have bB := bA.si (o := 454) (k := M 412 11) (v := 0) (by unfold RX; omega) (by omega) (by omega)
          have cB : h_iv (h_si (h_si (h_si h6 451 (M 412 11) (nI x)) 452 (M 412 11) (nI 0)) 454 (M 412 11) (nI 0)) 412 43 = nI (M 412 11) := by rw [si_ne (by omega)]; exact cA
          simp (maxSteps := 3000000) (disch := first | assumption | omega) only [bO_v, bR_v, bX_l, bX_r, bC_l, bC_r, aJ_v, aLet_v, nI_add, pk_mul, dvI_n, rmI_n, iMax_n, iMin_n, zO_0, zO_1, li_0, li_1, li_2, li_3, li_4, li_5, li_6, li_7, li_8, li_9, li_10, li_12, li_14, li_15, li_16, li_18, li_19, li_20, li_22, li_23, li_24, li_26, li_29, li_30, li_31, li_32, li_36, li_38, li_48, li_50, li_57, li_58, li_59, li_60, li_63, li_97, li_99, li_120, li_122, li_144, li_168, li_194, li_240, li_255, li_284, li_299, li_603, li_999, li_1200, li_1440, li_4095, li_4096, li_6030, li_16384, li_20160, zl0, zl1, zl2, zl3, zl4, ze01, ze02, ze03, ze04, ze10, ze12, ze13, ze14, ze20, ze21, ze23, ze24, ze30, ze31, ze32, ze34, ze40, ze41, ze42, ze43, zt0, zt1, zt2, zt3, zt4, zq0, zq1, zq2, zq3, zq4, it_t, it_f, Bool.true_eq_false, Bool.false_eq_true, na5, na4, na1441, na2, na10, sx_IOIA, sx_IOIS, sx_IONS, sx_IAIO, sx_IAIS, sx_IANS, sx_ISIO, sx_ISIA, sx_ISNS, sx_NSIO, sx_NSIA, sx_NSIS, r_c451_as b6.1, hk80, r_cM_gi b7.1, b7.2.2.2.1, z1, y_k95 b7, r_p452 b7.1, c7, r_c452_as b7.1, r_cM_gi bA.1, bA.2.2.2.1, y_k219 bA, r_p454 bA.1, cA, r_c454_as bA.1, r_cM_gi bB.1, cB, r_cM_pi bB.1]
          rw [← hB, ← hK]
          exact yi_bad (bB.si (by unfold RX; omega) (by omega) (by omega)) (Or.inl rfl)
        | inr x =>
          rw [ex] at hh
          obtain ⟨G6, Z6, rfl, -⟩ := hh
          obtain ⟨-, -, x3, -⟩ := sNum_inr ex
          have S6 := G6.1
          have c6 : h_iv h6 412 43 = nI (M 412 11) := (Z6.ri _ _ (by unfold RSx; omega)).trans c5
          have G7 := G6.si (o := 451) (k := M 412 11) (v := x.1) (by unfold RX; omega) (by omega) (by omega)
          have c7 : h_iv (h_si h6 451 (M 412 11) (nI x.1)) 412 43 = nI (M 412 11) := by rw [si_ne (by omega)]; exact c6
          have j449 : h_iv (h_si h6 451 (M 412 11) (nI x.1)) 449 (M 412 11) = nI u.1 := by rw [si_ne (by omega), Z6.ri _ _ (by unfold RSx; omega), si_ne (by omega), Z4.ri _ _ (by unfold RSx; omega), si_at]
          have j450 : h_iv (h_si h6 451 (M 412 11) (nI x.1)) 450 (M 412 11) = nI v.1 := by rw [si_ne (by omega), Z6.ri _ _ (by unfold RSx; omega), si_at]
          have j451 : h_iv (h_si h6 451 (M 412 11) (nI x.1)) 451 (M 412 11) = nI x.1 := si_at
          have V7 : RV (fun o k => (o = 449 ∨ o = 450 ∨ o = 451) ∧ k = M 412 11) (nmB 3 + M 412 11) h (h_si h6 451 (M 412 11) (nI x.1)) := (((((N1.rv.trans Z2.rv).trans (RV.si ⟨Or.inl rfl, rfl⟩)).trans Z4.rv).trans (RV.si ⟨Or.inr (Or.inl rfl), rfl⟩)).trans Z6.rv).trans (RV.si ⟨Or.inr (Or.inr rfl), rfl⟩)
          have l7 : h_lv (h_si h6 451 (M 412 11) (nI x.1)) 437 (nmB 3 + M 412 11) = lN (cd tx n (adv tx n s)) := (Z6.2.2.2.2.2.2 _ _ (by omega)).trans ((Z4.2.2.2.2.2.2 _ _ (by omega)).trans ((Z2.2.2.2.2.2.2 _ _ (by omega)).trans l1))
          obtain ⟨_, h8, e8, hh⟩ := y_sign X G7 (c := 58) (t := 4) (Or.inr ⟨rfl, rfl⟩)
          change YP n h0 _ (sb (sSym tx n x.2 4) _) _ _
          simp (maxSteps := 3000000) (disch := first | assumption | omega) only [bO_v, bR_v, bX_l, bX_r, bC_l, bC_r, aLet_v, nI_add, pk_mul, dvI_n, rmI_n, iMax_n, iMin_n, zO_0, zO_1, li_0, li_1, li_2, li_3, li_4, li_5, li_6, li_7, li_8, li_9, li_10, li_12, li_14, li_15, li_16, li_18, li_19, li_20, li_22, li_23, li_24, li_26, li_29, li_30, li_31, li_32, li_36, li_38, li_48, li_50, li_57, li_58, li_59, li_60, li_63, li_97, li_99, li_120, li_122, li_144, li_168, li_194, li_240, li_255, li_284, li_299, li_603, li_999, li_1200, li_1440, li_4095, li_4096, li_6030, li_16384, li_20160, zl0, zl1, zl2, zl3, zl4, ze01, ze02, ze03, ze04, ze10, ze12, ze13, ze14, ze20, ze21, ze23, ze24, ze30, ze31, ze32, ze34, ze40, ze41, ze42, ze43, zt0, zt1, zt2, zt3, zt4, zq0, zq1, zq2, zq3, zq4, it_t, it_f, Bool.true_eq_false, Bool.false_eq_true, na5, na4, na1441, na2, na10, sx_IOIA, sx_IOIS, sx_IONS, sx_IAIO, sx_IAIS, sx_IANS, sx_ISIO, sx_ISIA, sx_ISNS, sx_NSIO, sx_NSIA, sx_NSIS, r_c451_as S6, hk80, r_cM_gi G7.1, G7.2.2.2.1, z, r_cM_gS G7.1, e8]
          generalize h_si h6 451 (M 412 11) (nI x.1) = g7 at *
          refine aJ_gen (R := fun o => YP n h0 o _ B K) (fun k93 hk93 => ?_)
          cases ey : sSym tx n x.2 4 with
          | inl e =>
            rw [ey] at hh
            obtain ⟨b8, Z8⟩ := hh
            have c8 : h_iv h8 412 43 = nI (M 412 11) := (Z8.ri _ _ (by unfold RSx; omega)).trans c7
            have bA := b8.si (o := 452) (k := M 412 11) (v := 0) (by unfold RX; omega) (by omega) (by omega)
            have cA : h_iv (h_si h8 452 (M 412 11) (nI 0)) 412 43 = nI (M 412 11) := by rw [si_ne (by omega)]; exact c8
            have bB := bA.si (o := 454) (k := M 412 11) (v := 0) (by unfold RX; omega) (by omega) (by omega)
            have cB : h_iv (h_si (h_si h8 452 (M 412 11) (nI 0)) 454 (M 412 11) (nI 0)) 412 43 = nI (M 412 11) := by rw [si_ne (by omega)]; exact cA
            simp (maxSteps := 3000000) (disch := first | assumption | omega) only [bO_v, bR_v, bX_l, bX_r, bC_l, bC_r, aJ_v, aLet_v, nI_add, pk_mul, dvI_n, rmI_n, iMax_n, iMin_n, zO_0, zO_1, li_0, li_1, li_2, li_3, li_4, li_5, li_6, li_7, li_8, li_9, li_10, li_12, li_14, li_15, li_16, li_18, li_19, li_20, li_22, li_23, li_24, li_26, li_29, li_30, li_31, li_32, li_36, li_38, li_48, li_50, li_57, li_58, li_59, li_60, li_63, li_97, li_99, li_120, li_122, li_144, li_168, li_194, li_240, li_255, li_284, li_299, li_603, li_999, li_1200, li_1440, li_4095, li_4096, li_6030, li_16384, li_20160, zl0, zl1, zl2, zl3, zl4, ze01, ze02, ze03, ze04, ze10, ze12, ze13, ze14, ze20, ze21, ze23, ze24, ze30, ze31, ze32, ze34, ze40, ze41, ze42, ze43, zt0, zt1, zt2, zt3, zt4, zq0, zq1, zq2, zq3, zq4, it_t, it_f, Bool.true_eq_false, Bool.false_eq_true, na5, na4, na1441, na2, na10, sx_IOIA, sx_IOIS, sx_IONS, sx_IAIO, sx_IAIS, sx_IANS, sx_ISIO, sx_ISIA, sx_ISNS, sx_NSIO, sx_NSIA, sx_NSIS, hk93, r_cM_gi b8.1, b8.2.2.2.1, z1, y_k95 b8, r_p452 b8.1, c8, r_c452_as b8.1, r_cM_gi bA.1, bA.2.2.2.1, y_k219 bA, r_p454 bA.1, cA, r_c454_as bA.1, r_cM_gi bB.1, cB, r_cM_pi bB.1]
            rw [← hB, ← hK]
            exact yi_bad (bB.si (by unfold RX; omega) (by omega) (by omega)) (Or.inl rfl)
          | inr s3 =>
            rw [ey] at hh
            obtain ⟨G8, Z8⟩ := hh
            have c8 : h_iv h8 412 43 = nI (M 412 11) := (Z8.ri _ _ (by unfold RSx; omega)).trans c7
            have V8 := V7.trans Z8.rv
            have l8 : h_lv h8 437 (nmB 3 + M 412 11) = lN (cd tx n (adv tx n s)) := (Z8.2.2.2.2.2.2 _ _ (by omega)).trans l7
            rw [hk93]
            dsimp only
            refine aJ_gen (R := fun o => YP n h0 o _ B K) (fun k194 hk194 => ?_)
            generalize hM0 : put (put (put (put M 419 (23 + M 412 11) (adv tx n s)) 428 (M 412 11) u.1) 429 (M 412 11) v.1) 430 (M 412 11) x.1 = M0
            have e0 : ∀ o k, ¬ (o = 419 ∨ ((o = 428 ∨ o = 429 ∨ o = 430) ∧ k = M 412 11)) → M0 o k = M o k := fun o k r => by rw [← hM0, put_n (by omega), put_n (by omega), put_n (by omega), put_n (by omega)]
            change YP n h0 _ (sb (sDiff tx n M 1 (M 412 9) 432 (6 * M 412 11) (n + 2) M0 0 s3) _) B K
            have nyk : ∀ so cnt, so < 3 → cnt = nmN M so → NY tx n M so cnt h8 := fun so cnt hso ec i hi => by
              subst ec
              have := R.2.2.2 so (by omega) i hi
              have ne := nm_out (sN := 3) hD (by omega) (show M 412 11 < 6 from hc) (show so < 4 by omega) hi
              exact ⟨this.1, by rw [V8.2 _ ne]; exact this.2⟩
            have c432 : h_iv h8 412 41 = nI (M 412 9) := (V8.1 _ _ (by unfold RSx; omega) (by omega)).trans R.1.2.2.1
            have c442 : h_iv h8 412 42 = nI (M 412 10) := (V8.1 _ _ (by unfold RSx; omega) (by omega)).trans R.1.2.2.2.1
            refine y_dk95 X G8 (nyk 1 _ (by omega) rfl) c432 c8 d1 hc (M0 := M0) (fun o => YP n h0 o (sb (sDiff tx n M 1 (M 412 9) 432 (6 * M 412 11) (n + 2) M0 0 s3) fun r => sb (sSym tx n r.2.2 4) fun s4 => sb (sDiff tx n M 2 (M 412 10) 434 (5 * M 412 11) (n + 2) (put r.1 431 (M 412 11) r.2.1) 0 s4) fun z => .inr (put (put z.1 433 (M 412 11) z.2.1) 412 11 (M 412 11 + 1), z.2.2)) B K) (fun g c s' M1 e9 hcn Gg Vg b453 => ?_) (fun g e j hj b c43 hs => ?_)
            · show YP n h0 (k194 (nI c) g) _ B K
              have Sg := Gg.1
              have le9 := G8.le
              obtain ⟨i1, i2, i3, i4, i5, i6⟩ := sDiff_inr le9.1 (Or.inr (by omega)) (fun j r => absurd r (Nat.not_lt_zero j)) (fun i j _ r => absurd r (Nat.not_lt_zero j)) e9
              have c43 : h_iv g 412 43 = nI (M 412 11) := ((Vg 0).1 _ _ (by unfold RSx; omega) (by omega)).trans c8
              have G9 := Gg.si (o := 452) (k := M 412 11) (v := c) (by unfold RX; omega) (by omega) (by omega)
              have c453 : h_iv (h_si g 452 (M 412 11) (nI c)) 412 43 = nI (M 412 11) := by rw [si_ne (by omega)]; exact c43
              obtain ⟨_, h10, e10, hh⟩ := y_sign X G9 (c := 58) (t := 4) (Or.inr ⟨rfl, rfl⟩)
              rw [hk194, e9]
              change YP n h0 _ (sb (sSym tx n s' 4) fun s4 => sb (sDiff tx n M 2 (M 412 10) 434 (5 * M 412 11) (n + 2) (put M1 431 (M 412 11) c) 0 s4) fun z => .inr (put (put z.1 433 (M 412 11) z.2.1) 412 11 (M 412 11 + 1), z.2.2)) B K
              simp (maxSteps := 3000000) (disch := first | assumption | omega) only [bO_v, bR_v, bX_l, bX_r, bC_l, bC_r, aLet_v, nI_add, pk_mul, dvI_n, rmI_n, iMax_n, iMin_n, zO_0, zO_1, li_0, li_1, li_2, li_3, li_4, li_5, li_6, li_7, li_8, li_9, li_10, li_12, li_14, li_15, li_16, li_18, li_19, li_20, li_22, li_23, li_24, li_26, li_29, li_30, li_31, li_32, li_36, li_38, li_48, li_50, li_57, li_58, li_59, li_60, li_63, li_97, li_99, li_120, li_122, li_144, li_168, li_194, li_240, li_255, li_284, li_299, li_603, li_999, li_1200, li_1440, li_4095, li_4096, li_6030, li_16384, li_20160, zl0, zl1, zl2, zl3, zl4, ze01, ze02, ze03, ze04, ze10, ze12, ze13, ze14, ze20, ze21, ze23, ze24, ze30, ze31, ze32, ze34, ze40, ze41, ze42, ze43, zt0, zt1, zt2, zt3, zt4, zq0, zq1, zq2, zq3, zq4, it_t, it_f, Bool.true_eq_false, Bool.false_eq_true, na5, na4, na1441, na2, na10, sx_IOIA, sx_IOIS, sx_IONS, sx_IAIO, sx_IAIS, sx_IANS, sx_ISIO, sx_ISIA, sx_ISNS, sx_NSIO, sx_NSIA, sx_NSIS, r_p452 Sg, r_cM_gi Sg, c43, r_c452_as Sg, r_cM_gi G9.1, G9.2.2.2.1, z, r_cM_gS G9.1, e10]
              have k452 : h_iv (h_si g 452 (M 412 11) (nI c)) 452 (M 412 11) = nI c := si_at
              have kiv : ∀ o k, ¬ (o = 452 ∧ k = M 412 11) → h_iv (h_si g 452 (M 412 11) (nI c)) o k = h_iv g o k := fun o k q => si_ne q
              have klv : h_lv (h_si g 452 (M 412 11) (nI c)) = h_lv g := rfl
              generalize h_si g 452 (M 412 11) (nI c) = g9 at *
              refine aJ_gen (R := fun o => YP n h0 o _ B K) (fun k217 hk217 => ?_)
              cases ez : sSym tx n s' 4 with
              | inl e =>
                rw [ez] at hh
                obtain ⟨b10, Z10⟩ := hh
                have c10 : h_iv h10 412 43 = nI (M 412 11) := (Z10.ri _ _ (by unfold RSx; omega)).trans c453
                have bB := b10.si (o := 454) (k := M 412 11) (v := 0) (by unfold RX; omega) (by omega) (by omega)
                have cB : h_iv (h_si h10 454 (M 412 11) (nI 0)) 412 43 = nI (M 412 11) := by rw [si_ne (by omega)]; exact c10
                simp (maxSteps := 3000000) (disch := first | assumption | omega) only [bO_v, bR_v, bX_l, bX_r, bC_l, bC_r, aJ_v, aLet_v, nI_add, pk_mul, dvI_n, rmI_n, iMax_n, iMin_n, zO_0, zO_1, li_0, li_1, li_2, li_3, li_4, li_5, li_6, li_7, li_8, li_9, li_10, li_12, li_14, li_15, li_16, li_18, li_19, li_20, li_22, li_23, li_24, li_26, li_29, li_30, li_31, li_32, li_36, li_38, li_48, li_50, li_57, li_58, li_59, li_60, li_63, li_97, li_99, li_120, li_122, li_144, li_168, li_194, li_240, li_255, li_284, li_299, li_603, li_999, li_1200, li_1440, li_4095, li_4096, li_6030, li_16384, li_20160, zl0, zl1, zl2, zl3, zl4, ze01, ze02, ze03, ze04, ze10, ze12, ze13, ze14, ze20, ze21, ze23, ze24, ze30, ze31, ze32, ze34, ze40, ze41, ze42, ze43, zt0, zt1, zt2, zt3, zt4, zq0, zq1, zq2, zq3, zq4, it_t, it_f, Bool.true_eq_false, Bool.false_eq_true, na5, na4, na1441, na2, na10, sx_IOIA, sx_IOIS, sx_IONS, sx_IAIO, sx_IAIS, sx_IANS, sx_ISIO, sx_ISIA, sx_ISNS, sx_NSIO, sx_NSIA, sx_NSIS, hk217, y_k219 b10, r_p454 b10.1, r_cM_gi b10.1, c10, r_c454_as b10.1, r_cM_gi bB.1, cB, r_cM_pi bB.1]
                rw [← hB, ← hK]
                exact yi_bad (bB.si (by unfold RX; omega) (by omega) (by omega)) (Or.inl rfl)
              | inr s4 =>
                rw [ez] at hh
                obtain ⟨G10, Z10⟩ := hh
                have c10 : h_iv h10 412 43 = nI (M 412 11) := (Z10.ri _ _ (by unfold RSx; omega)).trans c453
                have iv10 : ∀ o k, ¬ RSx o k → ¬ (o = 452 ∧ k = M 412 11) → ¬ (o = 453 ∧ 6 * M 412 11 ≤ k) → h_iv h10 o k = h_iv h8 o k := fun o k q1 q2 q3 => by rw [Z10.ri o k q1, kiv o k q2, (Vg 0).1 o k q1 q3]
                have lv10 : ∀ k, h_lv h10 437 k = h_lv h8 437 k := fun k => by rw [Z10.2.2.2.2.2.2 _ _ (by omega), klv, (Vg (k + 1)).2 k (by omega)]
                have ny10 : NY tx n M 2 (M 412 10) h10 := fun i hi => by
                  have := nyk 2 (M 412 10) (by omega) rfl i hi
                  exact ⟨this.1, by rw [lv10 _]; exact this.2⟩
                have c4210 : h_iv h10 412 42 = nI (M 412 10) := (iv10 _ _ (by unfold RSx; omega) (by omega) (by omega)).trans c442
                rw [hk217]
                dsimp only
                refine aJ_gen (R := fun o => YP n h0 o _ B K) (fun k316 hk316 => ?_)
                change YP n h0 _ (sb (sDiff tx n M 2 (M 412 10) 434 (5 * M 412 11) (n + 2) (put M1 431 (M 412 11) c) 0 s4) fun z => .inr (put (put z.1 433 (M 412 11) z.2.1) 412 11 (M 412 11 + 1), z.2.2)) B K
                refine y_dk219 X G10 ny10 c4210 c10 d2 hc (M0 := put M1 431 (M 412 11) c) (fun o => YP n h0 o (sb (sDiff tx n M 2 (M 412 10) 434 (5 * M 412 11) (n + 2) (put M1 431 (M 412 11) c) 0 s4) fun z => .inr (put (put z.1 433 (M 412 11) z.2.1) 412 11 (M 412 11 + 1), z.2.2)) B K) (fun g' c' s'' M2 e11 hcn' Gg' Vg' b455 => ?_) (fun g' e j hj b c43' hs => ?_)
                · show YP n h0 (k316 (nI c') g') _ B K
                  have Sg' := Gg'.1
                  have le10 := G10.le
                  obtain ⟨j1, j2, j3, j4, j5, j6⟩ := sDiff_inr le10.1 (Or.inr (by omega)) (fun j r => absurd r (Nat.not_lt_zero j)) (fun i j _ r => absurd r (Nat.not_lt_zero j)) e11
                  have c43' : h_iv g' 412 43 = nI (M 412 11) := ((Vg' 0).1 _ _ (by unfold RSx; omega) (by omega)).trans c10
                  have G11 := Gg'.si (o := 454) (k := M 412 11) (v := c') (by unfold RX; omega) (by omega) (by omega)
                  have c4311 : h_iv (h_si g' 454 (M 412 11) (nI c')) 412 43 = nI (M 412 11) := by rw [si_ne (by omega)]; exact c43'
                  rw [hk316, e11]
                  simp (maxSteps := 3000000) (disch := first | assumption | omega) only [bO_v, bR_v, bX_l, bX_r, bC_l, bC_r, aLet_v, nI_add, pk_mul, dvI_n, rmI_n, iMax_n, iMin_n, zO_0, zO_1, li_0, li_1, li_2, li_3, li_4, li_5, li_6, li_7, li_8, li_9, li_10, li_12, li_14, li_15, li_16, li_18, li_19, li_20, li_22, li_23, li_24, li_26, li_29, li_30, li_31, li_32, li_36, li_38, li_48, li_50, li_57, li_58, li_59, li_60, li_63, li_97, li_99, li_120, li_122, li_144, li_168, li_194, li_240, li_255, li_284, li_299, li_603, li_999, li_1200, li_1440, li_4095, li_4096, li_6030, li_16384, li_20160, zl0, zl1, zl2, zl3, zl4, ze01, ze02, ze03, ze04, ze10, ze12, ze13, ze14, ze20, ze21, ze23, ze24, ze30, ze31, ze32, ze34, ze40, ze41, ze42, ze43, zt0, zt1, zt2, zt3, zt4, zq0, zq1, zq2, zq3, zq4, it_t, it_f, Bool.true_eq_false, Bool.false_eq_true, na5, na4, na1441, na2, na10, sx_IOIA, sx_IOIS, sx_IONS, sx_IAIO, sx_IAIS, sx_IANS, sx_ISIO, sx_ISIA, sx_ISNS, sx_NSIO, sx_NSIA, sx_NSIS, r_p454 Sg', r_cM_gi Sg', c43', r_c454_as Sg', r_cM_gi G11.1, c4311, r_cM_pi G11.1]
                  rw [← hB, ← hK]
                  obtain ⟨M', hM⟩ : ∃ M', M' = put (put M2 433 (M 412 11) c') 412 11 (M 412 11 + 1) := ⟨_, rfl⟩
                  have e : ∀ o k, ¬ ((o = 412 ∧ k = 11) ∨ o = 419 ∨ ((o = 428 ∨ o = 429 ∨ o = 430 ∨ o = 431 ∨ o = 433) ∧ k = M 412 11) ∨ (o = 432 ∧ 6 * M 412 11 ≤ k) ∨ (o = 434 ∧ 5 * M 412 11 ≤ k)) → M' o k = M o k := fun o k r => by
                    rw [hM, put_n (by omega), put_n (by omega), j4 o k (by omega), put_n (by omega), i4 o k (by omega), e0 o k (by omega)]
                  have mc : M' 412 11 = M 412 11 + 1 := by rw [hM]; exact put_e
                  have m433 : M' 433 (M 412 11) = c' := by rw [hM, put_n (by omega), put_e]
                  have m431 : M' 431 (M 412 11) = c := by rw [hM, put_n (by omega), put_n (by omega), j4 _ _ (by omega), put_e]
                  have m428 : M' 428 (M 412 11) = u.1 := by rw [hM, put_n (by omega), put_n (by omega), j4 _ _ (by omega), put_n (by omega), i4 _ _ (by omega), ← hM0, put_n (by omega), put_n (by omega), put_e]
                  have m429 : M' 429 (M 412 11) = v.1 := by rw [hM, put_n (by omega), put_n (by omega), j4 _ _ (by omega), put_n (by omega), i4 _ _ (by omega), ← hM0, put_n (by omega), put_e]
                  have m430 : M' 430 (M 412 11) = x.1 := by rw [hM, put_n (by omega), put_n (by omega), j4 _ _ (by omega), put_n (by omega), i4 _ _ (by omega), ← hM0, put_e]
                  have m432 : ∀ j, M' 432 j = M1 432 j := fun j => by rw [hM, put_n (by omega), put_n (by omega), j4 _ _ (by omega), put_n (by omega)]
                  have m434 : ∀ j, M' 434 j = M2 434 j := fun j => by rw [hM, put_n (by omega), put_n (by omega)]
                  have m5 : ∀ k, M' 419 k = if k = nmB 3 + nmN M 3 then adv tx n s else M 419 k := fun k => by
                    show M' 419 k = if k = 23 + M 412 11 then adv tx n s else M 419 k
                    rw [hM, put_n (by omega), put_n (by omega), j4 _ _ (by omega), put_n (by omega), i4 _ _ (by omega), ← hM0, put_n (by omega), put_n (by omega), put_n (by omega)]
                    by_cases r : k = 23 + M 412 11
                    · rw [if_pos r, r, put_e]
                    · rw [if_neg r, put_n (by omega)]
                  have G12 := G11.si (o := 412) (k := 43) (v := M 412 11 + 1) (by unfold RX; omega) (by omega) (by omega)
                  have V12 : RV (fun o k => ((o = 449 ∨ o = 450 ∨ o = 451 ∨ o = 452 ∨ o = 454) ∧ k = M 412 11) ∨ (o = 453 ∧ 6 * M 412 11 ≤ k) ∨ (o = 455 ∧ 5 * M 412 11 ≤ k) ∨ (o = 412 ∧ k = 43)) (nmB 3 + M 412 11) h (h_si (h_si g' 454 (M 412 11) (nI c')) 412 43 (nI (M 412 11 + 1))) := ⟨fun o k q1 q2 => by rw [si_ne (by omega), si_ne (by omega), (Vg' 0).1 o k q1 (by omega), iv10 o k q1 (by omega) (by omega), V8.1 o k q1 (by omega)], fun k q => by
                    show h_lv g' 437 k = _
                    rw [(Vg' (k + 1)).2 k (by omega), lv10, V8.2 k q]⟩
                  have l12 : h_lv (h_si (h_si g' 454 (M 412 11) (nI c')) 412 43 (nI (M 412 11 + 1))) 437 (nmB 3 + M 412 11) = lN (cd tx n (adv tx n s)) := by
                    show h_lv g' 437 (nmB 3 + M 412 11) = _
                    rw [(Vg' (nmB 3 + M 412 11 + 1)).2 _ (by omega), lv10]; exact l8
                  have f43 : h_iv (h_si (h_si g' 454 (M 412 11) (nI c')) 412 43 (nI (M 412 11 + 1))) 412 43 = nI (M 412 11 + 1) := si_at
                  have f454 : h_iv (h_si (h_si g' 454 (M 412 11) (nI c')) 412 43 (nI (M 412 11 + 1))) 454 (M 412 11) = nI c' := by rw [si_ne (by omega), si_at]
                  have fg' : ∀ o k, o ≠ 454 → o ≠ 412 → h_iv (h_si (h_si g' 454 (M 412 11) (nI c')) 412 43 (nI (M 412 11 + 1))) o k = h_iv g' o k := fun o k q1 q2 => by rw [si_ne (by omega), si_ne (by omega)]
                  have fg9 : ∀ o k, o ≠ 454 → o ≠ 412 → o ≠ 455 → h_iv (h_si (h_si g' 454 (M 412 11) (nI c')) 412 43 (nI (M 412 11 + 1))) o k = h_iv g9 o k := fun o k q1 q2 q3 => by rw [fg' o k q1 q2, (Vg' 0).1 o k (by unfold RSx; omega) (by omega), Z10.ri o k (by unfold RSx; omega)]
                  have fg7 : ∀ o k, o = 449 ∨ o = 450 ∨ o = 451 → h_iv (h_si (h_si g' 454 (M 412 11) (nI c')) 412 43 (nI (M 412 11 + 1))) o k = h_iv g7 o k := fun o k q => by rw [fg9 o k (by omega) (by omega) (by omega), kiv o k (by omega), (Vg 0).1 o k (by unfold RSx; omega) (by omega), Z8.ri o k (by unfold RSx; omega)]
                  generalize h_si (h_si g' 454 (M 412 11) (nI c')) 412 43 (nI (M 412 11 + 1)) = g12 at *
                  refine yi_good (a := (M', s'')) (by rw [hM]; rfl) G12 ?_
                  show RM tx n M' _
                  refine R.add V12 ⟨?_, ?_, ?_, ?_, by rw [f43, mc]⟩ (fun o k f => ?_) (fun k => ⟨e _ _ (by omega), e _ _ (by omega), by omega, by omega⟩) (ny_add R.2.2.2 hD (sN := 3) (s1 := adv tx n s) (by omega) (show M 412 11 < 6 from hc) mc (fun so q1 q2 => ?_) m5 nd l12 V12.2)
                  · rw [V12.1 _ _ (by unfold RSx; omega) (by omega), e _ _ (by omega)]; exact R.1.1
                  · rw [V12.1 _ _ (by unfold RSx; omega) (by omega), e _ _ (by omega)]; exact R.1.2.1
                  · rw [V12.1 _ _ (by unfold RSx; omega) (by omega), e _ _ (by omega)]; exact R.1.2.2.1
                  · rw [V12.1 _ _ (by unfold RSx; omega) (by omega), e _ _ (by omega)]; exact R.1.2.2.2.1
                  · rcases fil_addK (e 412 8 (by omega)) (e 412 9 (by omega)) (e 412 10 (by omega)) mc (fun g => e 424 g (by omega)) (fun g => e 426 g (by omega)) (fun g hg => e 431 g (by omega)) (fun g hg => e 433 g (by omega)) f with q | ⟨c1, ck⟩ | ⟨rfl, ck, kj⟩ | ⟨rfl, ck, kj⟩
                    · left
                      have l1 := (fil_lt q).2.2.2.2.2.1
                      have l2 := (fil_lt q).2.2.2.2.2.2.1
                      have l3 := (fil_lt q).2.2.2.2.2.2.2
                      have f1 := fil_in q
                      have nv := nu_v o
                      exact ⟨q, e o k (by omega), by omega⟩
                    · right
                      subst ck
                      rcases c1 with c1 | c1 | c1 | c1 | c1 <;> subst c1
                      · rw [m428]; exact (fg7 449 _ (by omega)).trans j449
                      · rw [m429]; exact (fg7 450 _ (by omega)).trans j450
                      · rw [m430]; exact (fg7 451 _ (by omega)).trans j451
                      · rw [m431]; exact (fg9 452 _ (by omega) (by omega) (by omega)).trans k452
                      · rw [m433]; exact f454
                    · right
                      rw [m431] at kj
                      have ke : k = 6 * M 412 11 + k % 6 := by omega
                      have bj := b453 (k % 6) kj
                      rw [← ke] at bj
                      rw [m432]
                      exact (fg9 453 k (by omega) (by omega) (by omega)).trans ((kiv 453 k (by omega)).trans bj)
                    · right
                      rw [m433] at kj
                      have ke : k = 5 * M 412 11 + k % 5 := by omega
                      have bj := b455 (k % 5) kj
                      rw [← ke] at bj
                      rw [m434]
                      exact (fg' 455 k (by omega) (by omega)).trans bj
                  · rcases (show so = 0 ∨ so = 1 ∨ so = 2 by omega) with r | r | r <;> subst r
                    · exact e 412 8 (by omega)
                    · exact e 412 9 (by omega)
                    · exact e 412 10 (by omega)
                · show YP n h0 (k316 (nI j) g') _ B K
                  have b6 := b.si (o := 454) (k := M 412 11) (v := j) (by unfold RX; omega) (by omega) (by omega)
                  have c6 : h_iv (h_si g' 454 (M 412 11) (nI j)) 412 43 = nI (M 412 11) := by rw [si_ne (by omega)]; exact c43'
                  rw [hk316]
                  simp (maxSteps := 3000000) (disch := first | assumption | omega) only [bO_v, bR_v, bX_l, bX_r, bC_l, bC_r, aLet_v, nI_add, pk_mul, dvI_n, rmI_n, iMax_n, iMin_n, zO_0, zO_1, li_0, li_1, li_2, li_3, li_4, li_5, li_6, li_7, li_8, li_9, li_10, li_12, li_14, li_15, li_16, li_18, li_19, li_20, li_22, li_23, li_24, li_26, li_29, li_30, li_31, li_32, li_36, li_38, li_48, li_50, li_57, li_58, li_59, li_60, li_63, li_97, li_99, li_120, li_122, li_144, li_168, li_194, li_240, li_255, li_284, li_299, li_603, li_999, li_1200, li_1440, li_4095, li_4096, li_6030, li_16384, li_20160, zl0, zl1, zl2, zl3, zl4, ze01, ze02, ze03, ze04, ze10, ze12, ze13, ze14, ze20, ze21, ze23, ze24, ze30, ze31, ze32, ze34, ze40, ze41, ze42, ze43, zt0, zt1, zt2, zt3, zt4, zq0, zq1, zq2, zq3, zq4, it_t, it_f, Bool.true_eq_false, Bool.false_eq_true, na5, na4, na1441, na2, na10, sx_IOIA, sx_IOIS, sx_IONS, sx_IAIO, sx_IAIS, sx_IANS, sx_ISIO, sx_ISIA, sx_ISNS, sx_NSIO, sx_NSIA, sx_NSIS, r_p454 b.1, r_cM_gi b.1, c43', r_c454_as b.1, r_cM_gi b6.1, c6, r_cM_pi b6.1]
                  rw [← hB, ← hK]
                  refine yi_bad (b6.si (by unfold RX; omega) (by omega) (by omega)) ?_
                  rcases hs with q | ⟨M3, c3, s3', q, q2, q3⟩
                  · left; rw [q]; rfl
                  · right; rw [q]; exact ⟨_, rfl, q2, q3⟩
            · show YP n h0 (k194 (nI j) g) _ B K
              have hs2 : (sb (sDiff tx n M 1 (M 412 9) 432 (6 * M 412 11) (n + 2) M0 0 s3) fun r => sb (sSym tx n r.2.2 4) fun s4 => sb (sDiff tx n M 2 (M 412 10) 434 (5 * M 412 11) (n + 2) (put r.1 431 (M 412 11) r.2.1) 0 s4) fun z => (.inr (put (put z.1 433 (M 412 11) z.2.1) 412 11 (M 412 11 + 1), z.2.2) : ER ⊕ ((Nat → Nat → Nat) × Nat))) = .inl e := by
                rcases hs with q | ⟨M1, c, s', q, q2, q3⟩
                · rw [q]; rfl
                · rw [q, q2]
                  show sb (sSym tx n s' 4) _ = _
                  unfold sSym
                  rw [if_neg q3]; rfl
              rw [hs2]
              have bA := b.si (o := 452) (k := M 412 11) (v := j) (by unfold RX; omega) (by omega) (by omega)
              have cA : h_iv (h_si g 452 (M 412 11) (nI j)) 412 43 = nI (M 412 11) := by rw [si_ne (by omega)]; exact c43
              have bB := bA.si (o := 454) (k := M 412 11) (v := 0) (by unfold RX; omega) (by omega) (by omega)
              have cB : h_iv (h_si (h_si g 452 (M 412 11) (nI j)) 454 (M 412 11) (nI 0)) 412 43 = nI (M 412 11) := by rw [si_ne (by omega)]; exact cA
              rw [hk194]
              simp (maxSteps := 3000000) (disch := first | assumption | omega) only [bO_v, bR_v, bX_l, bX_r, bC_l, bC_r, aJ_v, aLet_v, nI_add, pk_mul, dvI_n, rmI_n, iMax_n, iMin_n, zO_0, zO_1, li_0, li_1, li_2, li_3, li_4, li_5, li_6, li_7, li_8, li_9, li_10, li_12, li_14, li_15, li_16, li_18, li_19, li_20, li_22, li_23, li_24, li_26, li_29, li_30, li_31, li_32, li_36, li_38, li_48, li_50, li_57, li_58, li_59, li_60, li_63, li_97, li_99, li_120, li_122, li_144, li_168, li_194, li_240, li_255, li_284, li_299, li_603, li_999, li_1200, li_1440, li_4095, li_4096, li_6030, li_16384, li_20160, zl0, zl1, zl2, zl3, zl4, ze01, ze02, ze03, ze04, ze10, ze12, ze13, ze14, ze20, ze21, ze23, ze24, ze30, ze31, ze32, ze34, ze40, ze41, ze42, ze43, zt0, zt1, zt2, zt3, zt4, zq0, zq1, zq2, zq3, zq4, it_t, it_f, Bool.true_eq_false, Bool.false_eq_true, na5, na4, na1441, na2, na10, sx_IOIA, sx_IOIS, sx_IONS, sx_IAIO, sx_IAIS, sx_IANS, sx_ISIO, sx_ISIA, sx_ISNS, sx_NSIO, sx_NSIA, sx_NSIS, r_p452 b.1, r_cM_gi b.1, c43, r_c452_as b.1, r_cM_gi bA.1, bA.2.2.2.1, z1, y_k219 bA, r_p454 bA.1, cA, r_c454_as bA.1, r_cM_gi bB.1, cB, r_cM_pi bB.1]
              rw [← hB, ← hK]
              exact yi_bad (bB.si (by unfold RX; omega) (by omega) (by omega)) (Or.inl rfl)
end
