/-! the reference's reader: a trust -/
section
variable {h h0 : aH} {tx : Nat → Nat} {n s : Nat} {M : Nat → Nat → Nat}
theorem y_trust (X : TR tx n h0) (w : WM M) (R : RM tx n M h) (G : GS tx n h0 h (adv tx n s)) (hc : M 412 40 < 24) : YP n h0 (m_X12_trust 412 h) (sTrust tx n M s) (fun _ _ => True) (YI tx n h0) := by
  obtain ⟨hD, w2, w3, w4, w5, w6⟩ := w
  have d0 := hD.nP
  have z : (nI 0 = nI 0) = True := eq_self _
  have z1 : (nI 1 = nI 0) = False := eq_false (by decide)
  have x1 := X.1
  have g1 := G.1
  unfold sTrust
  rw [if_neg (by omega)]
  obtain ⟨r, h1, e1, hh⟩ := y_named X G (so := 0) (cnt := M 412 8) (R.2.2.2 0 (by omega)) (show 0 + M 412 8 ≤ 29 by omega)
  change m_X12_named 412 (nI 0) (nI (M 412 8)) h = _ at e1
  simp (maxSteps := 3000000) (disch := first | assumption | omega) only [m_X12_trust, bO_v, bR_v, bX_l, bX_r, bC_l, bC_r, aLet_v, nI_add, pk_mul, dvI_n, rmI_n, iMax_n, iMin_n, zO_0, zO_1, li_0, li_1, li_2, li_3, li_4, li_5, li_6, li_7, li_8, li_9, li_10, li_12, li_14, li_15, li_16, li_18, li_19, li_20, li_22, li_23, li_24, li_26, li_29, li_30, li_31, li_32, li_36, li_38, li_48, li_50, li_57, li_58, li_59, li_60, li_63, li_97, li_99, li_120, li_122, li_144, li_168, li_194, li_240, li_255, li_284, li_299, li_603, li_999, li_1200, li_1440, li_4095, li_4096, li_6030, li_16384, li_20160, zl0, zl1, zl2, zl3, zl4, ze01, ze02, ze03, ze04, ze10, ze12, ze13, ze14, ze20, ze21, ze23, ze24, ze30, ze31, ze32, ze34, ze40, ze41, ze42, ze43, zt0, zt1, zt2, zt3, zt4, zq0, zq1, zq2, zq3, zq4, it_t, it_f, Bool.true_eq_false, Bool.false_eq_true, na5, na4, na1441, na2, na10, sx_IOIA, sx_IOIS, sx_IONS, sx_IAIO, sx_IAIS, sx_IANS, sx_ISIO, sx_ISIA, sx_ISNS, sx_NSIO, sx_NSIA, sx_NSIS, r_cM_gi g1, R.1.1, r_cM_gS g1, e1]
  cases ea : sOf tx n M 0 (M 412 8) (adv tx n s) with
  | inl e =>
    rw [ea] at hh
    obtain ⟨b1, -⟩ := hh
    simp (maxSteps := 3000000) (disch := first | assumption | omega) only [bO_v, bR_v, bX_l, bX_r, bC_l, bC_r, aJ_v, aLet_v, nI_add, pk_mul, dvI_n, rmI_n, iMax_n, iMin_n, zO_0, zO_1, li_0, li_1, li_2, li_3, li_4, li_5, li_6, li_7, li_8, li_9, li_10, li_12, li_14, li_15, li_16, li_18, li_19, li_20, li_22, li_23, li_24, li_26, li_29, li_30, li_31, li_32, li_36, li_38, li_48, li_50, li_57, li_58, li_59, li_60, li_63, li_97, li_99, li_120, li_122, li_144, li_168, li_194, li_240, li_255, li_284, li_299, li_603, li_999, li_1200, li_1440, li_4095, li_4096, li_6030, li_16384, li_20160, zl0, zl1, zl2, zl3, zl4, ze01, ze02, ze03, ze04, ze10, ze12, ze13, ze14, ze20, ze21, ze23, ze24, ze30, ze31, ze32, ze34, ze40, ze41, ze42, ze43, zt0, zt1, zt2, zt3, zt4, zq0, zq1, zq2, zq3, zq4, it_t, it_f, Bool.true_eq_false, Bool.false_eq_true, na5, na4, na1441, na2, na10, sx_IOIA, sx_IOIS, sx_IONS, sx_IAIO, sx_IAIS, sx_IANS, sx_ISIO, sx_ISIA, sx_ISNS, sx_NSIO, sx_NSIA, sx_NSIS, r_cM_gi b1.1, b1.2.2.2.1, z1]
    exact yi_bad b1 (Or.inl rfl)
  | inr a =>
    rw [ea] at hh
    obtain ⟨G1, Z1, rfl, -, ha⟩ := hh
    have S1 := G1.1
    have c1 : h_iv h1 412 39 = nI (M 412 8) := (Z1.ri _ _ (by unfold RSx; omega)).trans R.1.1
    have N1 : NY tx n M 0 (M 412 8) h1 := fun i hi => by
      have := R.2.2.2 0 (by omega) i hi
      exact ⟨this.1, by rw [Z1.2.2.2.2.2.2 _ _ (by omega)]; exact this.2⟩
    obtain ⟨r, h2, e2, hh⟩ := y_named X G1 (so := 0) (cnt := M 412 8) N1 (show 0 + M 412 8 ≤ 29 by omega)
    change m_X12_named 412 (nI 0) (nI (M 412 8)) h1 = _ at e2
    change YP n h0 _ (sb (sOf tx n M 0 (M 412 8) a.2) _) _ _
    simp (maxSteps := 3000000) (disch := first | assumption | omega) only [bO_v, bR_v, bX_l, bX_r, bC_l, bC_r, aLet_v, nI_add, pk_mul, dvI_n, rmI_n, iMax_n, iMin_n, zO_0, zO_1, li_0, li_1, li_2, li_3, li_4, li_5, li_6, li_7, li_8, li_9, li_10, li_12, li_14, li_15, li_16, li_18, li_19, li_20, li_22, li_23, li_24, li_26, li_29, li_30, li_31, li_32, li_36, li_38, li_48, li_50, li_57, li_58, li_59, li_60, li_63, li_97, li_99, li_120, li_122, li_144, li_168, li_194, li_240, li_255, li_284, li_299, li_603, li_999, li_1200, li_1440, li_4095, li_4096, li_6030, li_16384, li_20160, zl0, zl1, zl2, zl3, zl4, ze01, ze02, ze03, ze04, ze10, ze12, ze13, ze14, ze20, ze21, ze23, ze24, ze30, ze31, ze32, ze34, ze40, ze41, ze42, ze43, zt0, zt1, zt2, zt3, zt4, zq0, zq1, zq2, zq3, zq4, it_t, it_f, Bool.true_eq_false, Bool.false_eq_true, na5, na4, na1441, na2, na10, sx_IOIA, sx_IOIS, sx_IONS, sx_IAIO, sx_IAIS, sx_IANS, sx_ISIO, sx_ISIA, sx_ISNS, sx_NSIO, sx_NSIA, sx_NSIS, r_cM_gi S1, G1.2.2.2.1, z, c1, r_cM_gS S1, e2]
    cases eb : sOf tx n M 0 (M 412 8) a.2 with
    | inl e =>
      rw [eb] at hh
      obtain ⟨b2, -⟩ := hh
      simp (maxSteps := 3000000) (disch := first | assumption | omega) only [bO_v, bR_v, bX_l, bX_r, bC_l, bC_r, aJ_v, aLet_v, nI_add, pk_mul, dvI_n, rmI_n, iMax_n, iMin_n, zO_0, zO_1, li_0, li_1, li_2, li_3, li_4, li_5, li_6, li_7, li_8, li_9, li_10, li_12, li_14, li_15, li_16, li_18, li_19, li_20, li_22, li_23, li_24, li_26, li_29, li_30, li_31, li_32, li_36, li_38, li_48, li_50, li_57, li_58, li_59, li_60, li_63, li_97, li_99, li_120, li_122, li_144, li_168, li_194, li_240, li_255, li_284, li_299, li_603, li_999, li_1200, li_1440, li_4095, li_4096, li_6030, li_16384, li_20160, zl0, zl1, zl2, zl3, zl4, ze01, ze02, ze03, ze04, ze10, ze12, ze13, ze14, ze20, ze21, ze23, ze24, ze30, ze31, ze32, ze34, ze40, ze41, ze42, ze43, zt0, zt1, zt2, zt3, zt4, zq0, zq1, zq2, zq3, zq4, it_t, it_f, Bool.true_eq_false, Bool.false_eq_true, na5, na4, na1441, na2, na10, sx_IOIA, sx_IOIS, sx_IONS, sx_IAIO, sx_IAIS, sx_IANS, sx_ISIO, sx_ISIA, sx_ISNS, sx_NSIO, sx_NSIA, sx_NSIS, r_cM_gi b2.1, b2.2.2.2.1, z1]
      exact yi_bad b2 (Or.inl rfl)
    | inr b =>
      rw [eb] at hh
      obtain ⟨G2, Z2, rfl, a37, hb⟩ := hh
      have S2 := G2.1
      have Z12 := Z1.trans Z2
      have ix : 12 * a.1 + b.1 < 144 := by omega
      have told : h_iv h2 441 (12 * a.1 + b.1) = nI (M 441 (12 * a.1 + b.1)) := (Z12.ri _ _ (by unfold RSx; omega)).trans (R.2.2.1 _ ix).1
      have m1 := w4 (12 * a.1 + b.1)
      obtain ⟨q', q1, q2, q3⟩ := G2.2.2.2.2.1
      have flt : ∀ c, ∃ h9, m_X12_fault 412 (nI c) (nI a.2) h2 = some ((), h9) ∧ BE n h0 h9 (c, a.2) ∧ Fx RSx h2 h9 := fun c => y_fault (n := n) S2 G2.2.1 G2.2.2.1 G2.2.2.2.1 q1 q2
      change YP n h0 _ (if a.1 = b.1 then .inl (6, a.2) else if M 441 (12 * a.1 + b.1) ≠ 0 then .inl (3, a.2) else sb (sNum tx n b.2 0 9) fun v => .inr (put (put (put M 441 (12 * a.1 + b.1) 1) 440 (12 * a.1 + b.1) v.1) 412 40 (M 412 40 + 1), v.2)) _ _
      have w441 : asz h2 441 (nI (12 * a.1 + b.1)) (nI 1) = some (h_si h2 441 (12 * a.1 + b.1) (nI 1)) := r_c441_as S2 ix (Or.inr rfl)
      simp (maxSteps := 3000000) (disch := first | assumption | omega) only [bO_v, bR_v, bX_l, bX_r, bC_l, bC_r, aLet_v, nI_add, pk_mul, dvI_n, rmI_n, iMax_n, iMin_n, zO_0, zO_1, li_0, li_1, li_2, li_3, li_4, li_5, li_6, li_7, li_8, li_9, li_10, li_12, li_14, li_15, li_16, li_18, li_19, li_20, li_22, li_23, li_24, li_26, li_29, li_30, li_31, li_32, li_36, li_38, li_48, li_50, li_57, li_58, li_59, li_60, li_63, li_97, li_99, li_120, li_122, li_144, li_168, li_194, li_240, li_255, li_284, li_299, li_603, li_999, li_1200, li_1440, li_4095, li_4096, li_6030, li_16384, li_20160, zl0, zl1, zl2, zl3, zl4, ze01, ze02, ze03, ze04, ze10, ze12, ze13, ze14, ze20, ze21, ze23, ze24, ze30, ze31, ze32, ze34, ze40, ze41, ze42, ze43, zt0, zt1, zt2, zt3, zt4, zq0, zq1, zq2, zq3, zq4, it_t, it_f, Bool.true_eq_false, Bool.false_eq_true, na5, na4, na1441, na2, na10, sx_IOIA, sx_IOIS, sx_IONS, sx_IAIO, sx_IAIS, sx_IANS, sx_ISIO, sx_ISIA, sx_ISNS, sx_NSIO, sx_NSIA, sx_NSIS, r_cM_gi S2, G2.2.2.2.1, z, r_p441 S2, r_c441_al S2, told, nI_eq, eq_self, a37, r_cM_gS S2, w441]
      rw [aJ_v]
      by_cases t0 : M 441 (12 * a.1 + b.1) = 0
      · rw [if_pos t0]
        by_cases ab : a.1 = b.1
        · rw [if_pos ab, if_pos ab]
          obtain ⟨h9, e9, b9, F9⟩ := flt 6
          rw [e9, bR_v]
          exact yi_bad b9 (Or.inl rfl)
        · rw [if_neg ab, if_neg ab, if_neg (show ¬ (M 441 (12 * a.1 + b.1) ≠ 0) from fun q => q t0)]
          have G5 := G2.si (o := 441) (k := 12 * a.1 + b.1) (v := 1) (by unfold RX; omega) (by omega) (by omega)
          have S5 := G5.1
          obtain ⟨r, h6, e6, hh⟩ := y_number X G5 (lo := 0) (hi := 9) (by omega) (by omega)
          simp (maxSteps := 3000000) (disch := first | assumption | omega) only [bO_v, bR_v, bX_l, bX_r, bC_l, bC_r, aLet_v, nI_add, pk_mul, dvI_n, rmI_n, iMax_n, iMin_n, zO_0, zO_1, li_0, li_1, li_2, li_3, li_4, li_5, li_6, li_7, li_8, li_9, li_10, li_12, li_14, li_15, li_16, li_18, li_19, li_20, li_22, li_23, li_24, li_26, li_29, li_30, li_31, li_32, li_36, li_38, li_48, li_50, li_57, li_58, li_59, li_60, li_63, li_97, li_99, li_120, li_122, li_144, li_168, li_194, li_240, li_255, li_284, li_299, li_603, li_999, li_1200, li_1440, li_4095, li_4096, li_6030, li_16384, li_20160, zl0, zl1, zl2, zl3, zl4, ze01, ze02, ze03, ze04, ze10, ze12, ze13, ze14, ze20, ze21, ze23, ze24, ze30, ze31, ze32, ze34, ze40, ze41, ze42, ze43, zt0, zt1, zt2, zt3, zt4, zq0, zq1, zq2, zq3, zq4, it_t, it_f, Bool.true_eq_false, Bool.false_eq_true, na5, na4, na1441, na2, na10, sx_IOIA, sx_IOIS, sx_IONS, sx_IAIO, sx_IAIS, sx_IANS, sx_ISIO, sx_ISIA, sx_ISNS, sx_NSIO, sx_NSIA, sx_NSIS, r_p440 S5, r_cM_gS S5, e6]
          cases ev : sNum tx n b.2 0 9 with
          | inl e =>
            rw [ev] at hh
            obtain ⟨b6, Z6, v, hv, rfl⟩ := hh
            have c6 : h_iv h6 412 40 = nI (M 412 40) := (Z6.ri _ _ (by unfold RSx; omega)).trans ((si_ne (by omega)).trans ((Z12.ri _ _ (by unfold RSx; omega)).trans R.1.2.1))
            have b7 := b6.si (o := 440) (k := 12 * a.1 + b.1) (v := v) (by unfold RX; omega) (by omega) (by omega)
            have c7 : h_iv (h_si h6 440 (12 * a.1 + b.1) (nI v)) 412 40 = nI (M 412 40) := by rw [si_ne (by omega)]; exact c6
            simp (maxSteps := 3000000) (disch := first | assumption | omega) only [bO_v, bR_v, bX_l, bX_r, bC_l, bC_r, aLet_v, nI_add, pk_mul, dvI_n, rmI_n, iMax_n, iMin_n, zO_0, zO_1, li_0, li_1, li_2, li_3, li_4, li_5, li_6, li_7, li_8, li_9, li_10, li_12, li_14, li_15, li_16, li_18, li_19, li_20, li_22, li_23, li_24, li_26, li_29, li_30, li_31, li_32, li_36, li_38, li_48, li_50, li_57, li_58, li_59, li_60, li_63, li_97, li_99, li_120, li_122, li_144, li_168, li_194, li_240, li_255, li_284, li_299, li_603, li_999, li_1200, li_1440, li_4095, li_4096, li_6030, li_16384, li_20160, zl0, zl1, zl2, zl3, zl4, ze01, ze02, ze03, ze04, ze10, ze12, ze13, ze14, ze20, ze21, ze23, ze24, ze30, ze31, ze32, ze34, ze40, ze41, ze42, ze43, zt0, zt1, zt2, zt3, zt4, zq0, zq1, zq2, zq3, zq4, it_t, it_f, Bool.true_eq_false, Bool.false_eq_true, na5, na4, na1441, na2, na10, sx_IOIA, sx_IOIS, sx_IONS, sx_IAIO, sx_IAIS, sx_IANS, sx_ISIO, sx_ISIA, sx_ISNS, sx_NSIO, sx_NSIA, sx_NSIS, r_c440_as b6.1, r_cM_gi b7.1, c7, r_cM_pi b7.1]
            exact yi_bad (b7.si (by unfold RX; omega) (by omega) (by omega)) (Or.inl rfl)
          | inr v =>
            rw [ev] at hh
            obtain ⟨G6, Z6, rfl, -⟩ := hh
            obtain ⟨-, -, v3, -⟩ := sNum_inr ev
            have c6 : h_iv h6 412 40 = nI (M 412 40) := (Z6.ri _ _ (by unfold RSx; omega)).trans ((si_ne (by omega)).trans ((Z12.ri _ _ (by unfold RSx; omega)).trans R.1.2.1))
            have G7 := G6.si (o := 440) (k := 12 * a.1 + b.1) (v := v.1) (by unfold RX; omega) (by omega) (by omega)
            have c7 : h_iv (h_si h6 440 (12 * a.1 + b.1) (nI v.1)) 412 40 = nI (M 412 40) := by rw [si_ne (by omega)]; exact c6
            simp (maxSteps := 3000000) (disch := first | assumption | omega) only [bO_v, bR_v, bX_l, bX_r, bC_l, bC_r, aLet_v, nI_add, pk_mul, dvI_n, rmI_n, iMax_n, iMin_n, zO_0, zO_1, li_0, li_1, li_2, li_3, li_4, li_5, li_6, li_7, li_8, li_9, li_10, li_12, li_14, li_15, li_16, li_18, li_19, li_20, li_22, li_23, li_24, li_26, li_29, li_30, li_31, li_32, li_36, li_38, li_48, li_50, li_57, li_58, li_59, li_60, li_63, li_97, li_99, li_120, li_122, li_144, li_168, li_194, li_240, li_255, li_284, li_299, li_603, li_999, li_1200, li_1440, li_4095, li_4096, li_6030, li_16384, li_20160, zl0, zl1, zl2, zl3, zl4, ze01, ze02, ze03, ze04, ze10, ze12, ze13, ze14, ze20, ze21, ze23, ze24, ze30, ze31, ze32, ze34, ze40, ze41, ze42, ze43, zt0, zt1, zt2, zt3, zt4, zq0, zq1, zq2, zq3, zq4, it_t, it_f, Bool.true_eq_false, Bool.false_eq_true, na5, na4, na1441, na2, na10, sx_IOIA, sx_IOIS, sx_IONS, sx_IAIO, sx_IAIS, sx_IANS, sx_ISIO, sx_ISIA, sx_ISNS, sx_NSIO, sx_NSIA, sx_NSIS, r_c440_as G6.1, r_cM_gi G7.1, c7, r_cM_pi G7.1]
            refine yi_good rfl (G7.si (by unfold RX; omega) (by omega) (by omega)) ?_
            have iv : ∀ o k, ¬ RSx o k → ¬ (o = 441 ∧ k = 12 * a.1 + b.1) → ¬ (o = 440 ∧ k = 12 * a.1 + b.1) → ¬ (o = 412 ∧ k = 40) → h_iv (h_si (h_si h6 440 (12 * a.1 + b.1) (nI v.1)) 412 40 (nI (M 412 40 + 1))) o k = h_iv h o k := fun o k p1 p2 p3 p4 => by
              rw [si_ne p4, si_ne p3, Z6.ri o k p1, si_ne p2, Z12.ri o k p1]
            have lv : ∀ k, h_lv (h_si (h_si h6 440 (12 * a.1 + b.1) (nI v.1)) 412 40 (nI (M 412 40 + 1))) 437 k = h_lv h 437 k := fun k => (Z6.2.2.2.2.2.2 _ _ (by omega)).trans (Z12.2.2.2.2.2.2 _ _ (by omega))
            have i440 : h_iv (h_si (h_si h6 440 (12 * a.1 + b.1) (nI v.1)) 412 40 (nI (M 412 40 + 1))) 440 (12 * a.1 + b.1) = nI v.1 := by rw [si_ne (by omega), si_at]
            have i441 : h_iv (h_si (h_si h6 440 (12 * a.1 + b.1) (nI v.1)) 412 40 (nI (M 412 40 + 1))) 441 (12 * a.1 + b.1) = nI 1 := by rw [si_ne (by omega), si_ne (by omega), Z6.ri _ _ (by unfold RSx; omega), si_at]
            have i40 : h_iv (h_si (h_si h6 440 (12 * a.1 + b.1) (nI v.1)) 412 40 (nI (M 412 40 + 1))) 412 40 = nI (M 412 40 + 1) := si_at
            generalize h_si (h_si h6 440 (12 * a.1 + b.1) (nI v.1)) 412 40 (nI (M 412 40 + 1)) = h9 at *
            generalize hM : put (put (put M 441 (12 * a.1 + b.1) 1) 440 (12 * a.1 + b.1) v.1) 412 40 (M 412 40 + 1) = M'
            have e : ∀ o k, o ≠ 440 → o ≠ 441 → ¬ (o = 412 ∧ k = 40) → M' o k = M o k := fun o k p1 p2 p3 => by rw [← hM, put_n (by omega), put_n (by omega), put_n (by omega)]
            obtain ⟨⟨r1, r2, r3, r4, r5⟩, r6, r7, r8⟩ := R
            show RM tx n M' h9
            refine ⟨⟨?_, ?_, ?_, ?_, ?_⟩, fun o k f => ?_, fun k hk => ?_, fun so hso i hi => ?_⟩
            · rw [iv _ _ (by unfold RSx; omega) (by omega) (by omega) (by omega), e _ _ (by omega) (by omega) (by omega)]; exact r1
            · rw [i40, ← hM, put_e]
            · rw [iv _ _ (by unfold RSx; omega) (by omega) (by omega) (by omega), e _ _ (by omega) (by omega) (by omega)]; exact r3
            · rw [iv _ _ (by unfold RSx; omega) (by omega) (by omega) (by omega), e _ _ (by omega) (by omega) (by omega)]; exact r4
            · rw [iv _ _ (by unfold RSx; omega) (by omega) (by omega) (by omega), e _ _ (by omega) (by omega) (by omega)]; exact r5
            · have f1 := fil_in f
              have f2 := nu_in f1.1 f1.2.1
              have f3 : nu o ≠ 440 ∧ nu o ≠ 441 := by have nv := nu_v o; omega
              have q8 := e 412 8 (by omega) (by omega) (by omega)
              have q9 := e 412 9 (by omega) (by omega) (by omega)
              have q10 := e 412 10 (by omega) (by omega) (by omega)
              have q11 := e 412 11 (by omega) (by omega) (by omega)
              have q424 := e 424 (k / 8) (by omega) (by omega) (by omega)
              have q426 := e 426 (k / 6) (by omega) (by omega) (by omega)
              have q431 := e 431 (k / 6) (by omega) (by omega) (by omega)
              have q433 := e 433 (k / 5) (by omega) (by omega) (by omega)
              have f' : fil M o k := by
                unfold fil at f ⊢
                rw [q8, q9, q10, q11, q424, q426, q431, q433] at f
                exact f
              rw [iv _ _ (by unfold RSx; omega) (by omega) (by omega) (by omega), e _ _ (by omega) (by omega) (by omega)]; exact r6 o k f'
            · by_cases ck : k = 12 * a.1 + b.1
              · rw [ck, i441, i440, ← hM, put_n (by omega), put_n (by omega), put_e, put_n (by omega), put_e, if_neg (by omega)]
                exact ⟨rfl, rfl⟩
              · rw [iv 441 k (by unfold RSx; omega) (by omega) (by omega) (by omega), iv 440 k (by unfold RSx; omega) (by omega) (by omega) (by omega), ← hM, put_n (by omega), put_n (by omega), put_n (by omega), put_n (by omega), put_n (by omega), put_n (by omega)]
                exact r7 k hk
            · have hi' : i < nmN M so := by
                rcases (show so = 0 ∨ so = 1 ∨ so = 2 ∨ so = 3 by omega) with r | r | r | r <;> subst r
                · have := e 412 8 (by omega) (by omega) (by omega)
                  change i < M' 412 8 at hi
                  show i < M 412 8
                  omega
                · have := e 412 9 (by omega) (by omega) (by omega)
                  change i < M' 412 9 at hi
                  show i < M 412 9
                  omega
                · have := e 412 10 (by omega) (by omega) (by omega)
                  change i < M' 412 10 at hi
                  show i < M 412 10
                  omega
                · have := e 412 11 (by omega) (by omega) (by omega)
                  change i < M' 412 11 at hi
                  show i < M 412 11
                  omega
              have := r8 so hso i hi'
              rw [e 419 _ (by omega) (by omega) (by omega), lv]
              exact this
      · rw [if_neg t0, if_pos t0]
        obtain ⟨h9, e9, b9, F9⟩ := flt 3
        rw [e9, bR_v]
        have ab : ¬ a.1 = b.1 := fun q => t0 (by
          rw [← q]
          exact w5 a.1 (by
            change a.1 < M 412 8 at ha
            omega))
        rw [if_neg ab]
        exact yi_bad b9 (Or.inl rfl)
end
