/-! the reference's reader: a person, a trust -/
section
variable {h h0 : aH} {tx : Nat → Nat} {n s : Nat} {M : Nat → Nat → Nat}
theorem y_person (X : TR tx n h0) (w : WM M) (R : RM tx n M h) (G : GS tx n h0 h (adv tx n s)) (hc : M 412 8 < 12) : YP n h0 (m_X12_person 412 h) (sPerson tx n M s) (fun _ _ => True) (YI tx n h0) := by
  have hD := w.1
  have d1 := hD.nG
  have d2 := hD.nE
  have d3 := hD.nK
  have z : (nI 0 = nI 0) = True := eq_self _
  have z1 : (nI 1 = nI 0) = False := eq_false (by decide)
  have x1 := X.1
  have g1 := G.1
  unfold sPerson
  rw [if_neg (by omega)]
  obtain ⟨_, h1, e1, hh⟩ := y_newName X G (so := 0) (cnt := M 412 8) (R.2.2.2 0 (by omega)) (show 0 + M 412 8 < 29 by omega)
  change m_X12_newName 412 (nI 0) (nI (M 412 8)) h = _ at e1
  simp (maxSteps := 3000000) (disch := first | assumption | omega) only [m_X12_person, bO_v, bR_v, bX_l, bX_r, bC_l, bC_r, aLet_v, nI_add, pk_mul, dvI_n, rmI_n, iMax_n, iMin_n, zO_0, zO_1, li_0, li_1, li_2, li_3, li_4, li_5, li_6, li_7, li_8, li_9, li_10, li_12, li_14, li_15, li_16, li_18, li_19, li_20, li_22, li_23, li_24, li_26, li_29, li_30, li_31, li_32, li_36, li_38, li_48, li_50, li_57, li_58, li_59, li_60, li_63, li_97, li_99, li_120, li_122, li_144, li_168, li_194, li_240, li_255, li_284, li_299, li_603, li_999, li_1200, li_1440, li_4095, li_4096, li_6030, li_16384, li_20160, zl0, zl1, zl2, zl3, zl4, ze01, ze02, ze03, ze04, ze10, ze12, ze13, ze14, ze20, ze21, ze23, ze24, ze30, ze31, ze32, ze34, ze40, ze41, ze42, ze43, zt0, zt1, zt2, zt3, zt4, zq0, zq1, zq2, zq3, zq4, it_t, it_f, Bool.true_eq_false, Bool.false_eq_true, na5, na4, na1441, na2, na10, sx_IOIA, sx_IOIS, sx_IONS, sx_IAIO, sx_IAIS, sx_IANS, sx_ISIO, sx_ISIA, sx_ISNS, sx_NSIO, sx_NSIA, sx_NSIS, r_cM_gi g1, R.1.1, r_cM_gS g1, e1]
  cases es : sNew tx n M 0 (M 412 8) (adv tx n s) with
  | inl e =>
    rw [es] at hh
    obtain ⟨b1, r1⟩ := hh
    have c1 : h_iv h1 412 39 = nI (M 412 8) := (r1 _ _ (by unfold RSx; omega)).trans R.1.1
    have b2 := b1.si (o := 439) (k := M 412 8) (v := 0) (by unfold RX; omega) (by omega) (by omega)
    have c2 : h_iv (h_si h1 439 (M 412 8) (nI 0)) 412 39 = nI (M 412 8) := by rw [si_ne (by omega)]; exact c1
    simp (maxSteps := 3000000) (disch := first | assumption | omega) only [bO_v, bR_v, bX_l, bX_r, bC_l, bC_r, aJ_v, aLet_v, nI_add, pk_mul, dvI_n, rmI_n, iMax_n, iMin_n, zO_0, zO_1, li_0, li_1, li_2, li_3, li_4, li_5, li_6, li_7, li_8, li_9, li_10, li_12, li_14, li_15, li_16, li_18, li_19, li_20, li_22, li_23, li_24, li_26, li_29, li_30, li_31, li_32, li_36, li_38, li_48, li_50, li_57, li_58, li_59, li_60, li_63, li_97, li_99, li_120, li_122, li_144, li_168, li_194, li_240, li_255, li_284, li_299, li_603, li_999, li_1200, li_1440, li_4095, li_4096, li_6030, li_16384, li_20160, zl0, zl1, zl2, zl3, zl4, ze01, ze02, ze03, ze04, ze10, ze12, ze13, ze14, ze20, ze21, ze23, ze24, ze30, ze31, ze32, ze34, ze40, ze41, ze42, ze43, zt0, zt1, zt2, zt3, zt4, zq0, zq1, zq2, zq3, zq4, it_t, it_f, Bool.true_eq_false, Bool.false_eq_true, na5, na4, na1441, na2, na10, sx_IOIA, sx_IOIS, sx_IONS, sx_IAIO, sx_IAIS, sx_IANS, sx_ISIO, sx_ISIA, sx_ISNS, sx_NSIO, sx_NSIA, sx_NSIS, r_cM_gi b1.1, b1.2.2.2.1, z1, r_p439 b1.1, c1, r_c439_as b1.1, y_pB b2, r_cM_gi b2.1, c2, r_cM_pi b2.1]
    exact yi_bad (b2.si (by unfold RX; omega) (by omega) (by omega)) (Or.inl rfl)
  | inr s2 =>
    rw [es] at hh
    obtain ⟨G1, N1, l1, nd⟩ := hh
    have S1 := G1.1
    have c1 : h_iv h1 412 39 = nI (M 412 8) := (N1.2.2.2.2.2.1 _ _ (by unfold RSx; omega)).trans R.1.1
    obtain ⟨r, h2, e2, hh⟩ := y_number X G1 (lo := 0) (hi := 120) (by omega) (by omega)
    change YP n h0 _ (sb (sNum tx n s2 0 120) _) _ _
    generalize hK : YI tx n h0 = K
    generalize hB : (fun (_ : Unit) (_ : aH) => True) = B
    simp (maxSteps := 3000000) (disch := first | assumption | omega) only [bO_v, bR_v, bX_l, bX_r, bC_l, bC_r, aLet_v, nI_add, pk_mul, dvI_n, rmI_n, iMax_n, iMin_n, zO_0, zO_1, li_0, li_1, li_2, li_3, li_4, li_5, li_6, li_7, li_8, li_9, li_10, li_12, li_14, li_15, li_16, li_18, li_19, li_20, li_22, li_23, li_24, li_26, li_29, li_30, li_31, li_32, li_36, li_38, li_48, li_50, li_57, li_58, li_59, li_60, li_63, li_97, li_99, li_120, li_122, li_144, li_168, li_194, li_240, li_255, li_284, li_299, li_603, li_999, li_1200, li_1440, li_4095, li_4096, li_6030, li_16384, li_20160, zl0, zl1, zl2, zl3, zl4, ze01, ze02, ze03, ze04, ze10, ze12, ze13, ze14, ze20, ze21, ze23, ze24, ze30, ze31, ze32, ze34, ze40, ze41, ze42, ze43, zt0, zt1, zt2, zt3, zt4, zq0, zq1, zq2, zq3, zq4, it_t, it_f, Bool.true_eq_false, Bool.false_eq_true, na5, na4, na1441, na2, na10, sx_IOIA, sx_IOIS, sx_IONS, sx_IAIO, sx_IAIS, sx_IANS, sx_ISIO, sx_ISIA, sx_ISNS, sx_NSIO, sx_NSIA, sx_NSIS, r_cM_gi S1, G1.2.2.2.1, z, r_p438 S1, c1, r_cM_gS S1, e2]
    refine aJ_gen (R := fun o => YP n h0 o _ B K) (fun k32 hk32 => ?_)
    cases en : sNum tx n s2 0 120 with
    | inl e =>
      rw [en] at hh
      obtain ⟨b2, Z2, v, hv, rfl⟩ := hh
      have c2 : h_iv h2 412 39 = nI (M 412 8) := (Z2.ri _ _ (by unfold RSx; omega)).trans c1
      have b3 := b2.si (o := 438) (k := M 412 8) (v := v) (by unfold RX; omega) (by omega) (by omega)
      have c3 : h_iv (h_si h2 438 (M 412 8) (nI v)) 412 39 = nI (M 412 8) := by rw [si_ne (by omega)]; exact c2
      have b4 := b3.si (o := 439) (k := M 412 8) (v := 0) (by unfold RX; omega) (by omega) (by omega)
      have c4 : h_iv (h_si (h_si h2 438 (M 412 8) (nI v)) 439 (M 412 8) (nI 0)) 412 39 = nI (M 412 8) := by rw [si_ne (by omega)]; exact c3
      simp (maxSteps := 3000000) (disch := first | assumption | omega) only [bO_v, bR_v, bX_l, bX_r, bC_l, bC_r, aJ_v, aLet_v, nI_add, pk_mul, dvI_n, rmI_n, iMax_n, iMin_n, zO_0, zO_1, li_0, li_1, li_2, li_3, li_4, li_5, li_6, li_7, li_8, li_9, li_10, li_12, li_14, li_15, li_16, li_18, li_19, li_20, li_22, li_23, li_24, li_26, li_29, li_30, li_31, li_32, li_36, li_38, li_48, li_50, li_57, li_58, li_59, li_60, li_63, li_97, li_99, li_120, li_122, li_144, li_168, li_194, li_240, li_255, li_284, li_299, li_603, li_999, li_1200, li_1440, li_4095, li_4096, li_6030, li_16384, li_20160, zl0, zl1, zl2, zl3, zl4, ze01, ze02, ze03, ze04, ze10, ze12, ze13, ze14, ze20, ze21, ze23, ze24, ze30, ze31, ze32, ze34, ze40, ze41, ze42, ze43, zt0, zt1, zt2, zt3, zt4, zq0, zq1, zq2, zq3, zq4, it_t, it_f, Bool.true_eq_false, Bool.false_eq_true, na5, na4, na1441, na2, na10, sx_IOIA, sx_IOIS, sx_IONS, sx_IAIO, sx_IAIS, sx_IANS, sx_ISIO, sx_ISIA, sx_ISNS, sx_NSIO, sx_NSIA, sx_NSIS, r_c438_as b2.1, hk32, r_cM_gi b3.1, r_p439 b3.1, c3, r_c439_as b3.1, y_pB b4, r_cM_gi b4.1, c4, r_cM_pi b4.1]
      rw [← hB, ← hK]
      exact yi_bad (b4.si (by unfold RX; omega) (by omega) (by omega)) (Or.inl rfl)
    | inr v =>
      rw [en] at hh
      obtain ⟨G2, Z2, rfl, -⟩ := hh
      obtain ⟨-, -, v3, -⟩ := sNum_inr en
      have S2 := G2.1
      have c2 : h_iv h2 412 39 = nI (M 412 8) := (Z2.ri _ _ (by unfold RSx; omega)).trans c1
      have G3 := G2.si (o := 438) (k := M 412 8) (v := v.1) (by unfold RX; omega) (by omega) (by omega)
      have c3 : h_iv (h_si h2 438 (M 412 8) (nI v.1)) 412 39 = nI (M 412 8) := by rw [si_ne (by omega)]; exact c2
      have G4 := G3.si (o := 439) (k := M 412 8) (v := 0) (by unfold RX; omega) (by omega) (by omega)
      simp (maxSteps := 3000000) (disch := first | assumption | omega) only [bO_v, bR_v, bX_l, bX_r, bC_l, bC_r, aLet_v, nI_add, pk_mul, dvI_n, rmI_n, iMax_n, iMin_n, zO_0, zO_1, li_0, li_1, li_2, li_3, li_4, li_5, li_6, li_7, li_8, li_9, li_10, li_12, li_14, li_15, li_16, li_18, li_19, li_20, li_22, li_23, li_24, li_26, li_29, li_30, li_31, li_32, li_36, li_38, li_48, li_50, li_57, li_58, li_59, li_60, li_63, li_97, li_99, li_120, li_122, li_144, li_168, li_194, li_240, li_255, li_284, li_299, li_603, li_999, li_1200, li_1440, li_4095, li_4096, li_6030, li_16384, li_20160, zl0, zl1, zl2, zl3, zl4, ze01, ze02, ze03, ze04, ze10, ze12, ze13, ze14, ze20, ze21, ze23, ze24, ze30, ze31, ze32, ze34, ze40, ze41, ze42, ze43, zt0, zt1, zt2, zt3, zt4, zq0, zq1, zq2, zq3, zq4, it_t, it_f, Bool.true_eq_false, Bool.false_eq_true, na5, na4, na1441, na2, na10, sx_IOIA, sx_IOIS, sx_IONS, sx_IAIO, sx_IAIS, sx_IANS, sx_ISIO, sx_ISIA, sx_ISNS, sx_NSIO, sx_NSIA, sx_NSIS, r_c438_as S2, hk32, r_cM_gi G3.1, r_p439 G3.1, c3, r_c439_as G3.1]
      have V4 : RV (fun o k => (o = 438 ∨ o = 439) ∧ k = M 412 8) (nmB 0 + M 412 8) h (h_si (h_si h2 438 (M 412 8) (nI v.1)) 439 (M 412 8) (nI 0)) := ((N1.rv.trans Z2.rv).trans (RV.si ⟨Or.inl rfl, rfl⟩)).trans (RV.si ⟨Or.inr rfl, rfl⟩)
      have a438 : h_iv (h_si (h_si h2 438 (M 412 8) (nI v.1)) 439 (M 412 8) (nI 0)) 438 (M 412 8) = nI v.1 := by rw [si_ne (by omega), si_at]
      have a439 : h_iv (h_si (h_si h2 438 (M 412 8) (nI v.1)) 439 (M 412 8) (nI 0)) 439 (M 412 8) = nI 0 := si_at
      have l4 : h_lv (h_si (h_si h2 438 (M 412 8) (nI v.1)) 439 (M 412 8) (nI 0)) 437 (nmB 0 + M 412 8) = lN (cd tx n (adv tx n s)) := (Z2.2.2.2.2.2.2 _ _ (by omega)).trans l1
      generalize h_si (h_si h2 438 (M 412 8) (nI v.1)) 439 (M 412 8) (nI 0) = g4 at *
      refine aJ_gen (R := fun o => YP n h0 o _ B K) (fun k121 hk121 => ?_)
      change YP n h0 _ (sb (sSkills tx n (n + 1) 0 v.2) fun a => .inr (put (put (put (put M 419 (M 412 8) (adv tx n s)) 420 (M 412 8) v.1) 421 (M 412 8) a.1) 412 8 (M 412 8 + 1), a.2)) B K
      have vs := G2.le
      refine aL0_run (R := fun o => YP n h0 o (sb (sSkills tx n (n + 1) 0 v.2) fun a => .inr (put (put (put (put M 419 (M 412 8) (adv tx n s)) 420 (M 412 8) v.1) 421 (M 412 8) a.1) 412 8 (M 412 8 + 1), a.2)) B K) (fun m g => (∃ f acc s', m = f + 1 ∧ n < s' + f ∧ sSkills tx n (n + 1) 0 v.2 = sSkills tx n f acc s' ∧ acc < 16 ∧ GS tx n h0 g s' ∧ RV (fun o k => (o = 438 ∨ o = 439) ∧ k = M 412 8) (nmB 0 + M 412 8) h g ∧ h_iv g 438 (M 412 8) = nI v.1 ∧ h_iv g 439 (M 412 8) = nI acc ∧ h_lv g 437 (nmB 0 + M 412 8) = lN (cd tx n (adv tx n s))) ∨ (m = 0 ∧ ∃ e, BE n h0 g e ∧ h_iv g 412 39 = nI (M 412 8) ∧ (sSkills tx n (n + 1) 0 v.2 = .inl e ∨ ∃ acc s', sSkills tx n (n + 1) 0 v.2 = .inr (acc, s') ∧ e = (1, s') ∧ tok tx n s' ≠ 3))) (Or.inl ⟨n + 1, 0, v.2, rfl, by omega, rfl, by omega, G4, V4, a438, a439, l4⟩) (by omega) ?_
      rintro rec m g (⟨f, acc, s', rfl, hf, es, ha, Gg, Vg, b438, b439, lg⟩ | ⟨rfl, e, b, c39, hs⟩) ih
      · have Sg := Gg.1
        have sl := Gg.le
        obtain ⟨pp, pp1, pp2, pp3⟩ := Gg.2.2.2.2.1
        obtain ⟨r5, h5, e5, rfl, F5, a5⟩ := y_isNext Sg (X.ry Gg.2.1) pp2 pp1 pp3 (c := 59) (by omega)
        have Z5 : RZ g h5 := RZ.fx F5 (fun o k r => by unfold RSx; omega)
        have G5 : GS tx n h0 h5 s' := Gg.rz Z5 ⟨F5.iv (by omega), F5.iv (by omega), F5.iv (by omega)⟩ ⟨s', sl.1, a5, sl.2⟩
        have S5 := G5.1
        have te := tokS (tx := tx) (n := n) (s := s') (Or.inl ⟨rfl, rfl⟩)
        have i5 : ∀ o k, ¬ RSx o k → h_iv h5 o k = h_iv g o k := Z5.ri
        have c39 : h_iv g 412 39 = nI (M 412 8) := (Vg.1 _ _ (by unfold RSx; omega) (by omega)).trans R.1.1
        have c395 : h_iv h5 412 39 = nI (M 412 8) := (i5 _ _ (by unfold RSx; omega)).trans c39
        have V5 := Vg.trans Z5.rv
        have l5 : h_lv h5 437 (nmB 0 + M 412 8) = lN (cd tx n (adv tx n s)) := (Z5.2.2.2.2.2.2 _ _ (by omega)).trans lg
        have d439 : h_iv h5 439 (M 412 8) = nI acc := (i5 _ _ (by unfold RSx; omega)).trans b439
        have d438 : h_iv h5 438 (M 412 8) = nI v.1 := (i5 _ _ (by unfold RSx; omega)).trans b438
        obtain ⟨f, rfl⟩ : ∃ f', f = f' + 1 := ⟨f - 1, by omega⟩
        simp (maxSteps := 3000000) (disch := first | assumption | omega) only [m_X12_person_L42, bO_v, bR_v, bX_l, bX_r, bC_l, bC_r, aLet_v, nI_add, pk_mul, dvI_n, rmI_n, iMax_n, iMin_n, zO_0, zO_1, li_0, li_1, li_2, li_3, li_4, li_5, li_6, li_7, li_8, li_9, li_10, li_12, li_14, li_15, li_16, li_18, li_19, li_20, li_22, li_23, li_24, li_26, li_29, li_30, li_31, li_32, li_36, li_38, li_48, li_50, li_57, li_58, li_59, li_60, li_63, li_97, li_99, li_120, li_122, li_144, li_168, li_194, li_240, li_255, li_284, li_299, li_603, li_999, li_1200, li_1440, li_4095, li_4096, li_6030, li_16384, li_20160, zl0, zl1, zl2, zl3, zl4, ze01, ze02, ze03, ze04, ze10, ze12, ze13, ze14, ze20, ze21, ze23, ze24, ze30, ze31, ze32, ze34, ze40, ze41, ze42, ze43, zt0, zt1, zt2, zt3, zt4, zq0, zq1, zq2, zq3, zq4, it_t, it_f, Bool.true_eq_false, Bool.false_eq_true, na5, na4, na1441, na2, na10, sx_IOIA, sx_IOIS, sx_IONS, sx_IAIO, sx_IAIS, sx_IANS, sx_ISIO, sx_ISIA, sx_ISNS, sx_NSIO, sx_NSIA, sx_NSIS, r_cM_gi Sg, Gg.2.2.2.1, z, r_cM_gS Sg, e5, b2i_0, decide_eq_false_iff_not]
        by_cases t3 : tok tx n s' = 3
        · rw [if_neg (fun q => q (te.mp t3)), hk121]
          have e9 : sSkills tx n (n + 1) 0 v.2 = .inr (acc, s') := by rw [es, sSkills, if_pos (by omega)]
          rw [e9]
          simp (maxSteps := 3000000) (disch := first | assumption | omega) only [bO_v, bR_v, bX_l, bX_r, bC_l, bC_r, aLet_v, nI_add, pk_mul, dvI_n, rmI_n, iMax_n, iMin_n, zO_0, zO_1, li_0, li_1, li_2, li_3, li_4, li_5, li_6, li_7, li_8, li_9, li_10, li_12, li_14, li_15, li_16, li_18, li_19, li_20, li_22, li_23, li_24, li_26, li_29, li_30, li_31, li_32, li_36, li_38, li_48, li_50, li_57, li_58, li_59, li_60, li_63, li_97, li_99, li_120, li_122, li_144, li_168, li_194, li_240, li_255, li_284, li_299, li_603, li_999, li_1200, li_1440, li_4095, li_4096, li_6030, li_16384, li_20160, zl0, zl1, zl2, zl3, zl4, ze01, ze02, ze03, ze04, ze10, ze12, ze13, ze14, ze20, ze21, ze23, ze24, ze30, ze31, ze32, ze34, ze40, ze41, ze42, ze43, zt0, zt1, zt2, zt3, zt4, zq0, zq1, zq2, zq3, zq4, it_t, it_f, Bool.true_eq_false, Bool.false_eq_true, na5, na4, na1441, na2, na10, sx_IOIA, sx_IOIS, sx_IONS, sx_IAIO, sx_IAIS, sx_IANS, sx_ISIO, sx_ISIA, sx_ISNS, sx_NSIO, sx_NSIA, sx_NSIS, r_cM_gi S5, c395, r_cM_pi S5]
          rw [← hB, ← hK]
          obtain ⟨M', hM⟩ : ∃ M', M' = put (put (put (put M 419 (M 412 8) (adv tx n s)) 420 (M 412 8) v.1) 421 (M 412 8) acc) 412 8 (M 412 8 + 1) := ⟨_, rfl⟩
          have e : ∀ o k, ¬ ((o = 412 ∧ k = 8) ∨ o = 419 ∨ ((o = 420 ∨ o = 421) ∧ k = M 412 8)) → M' o k = M o k := fun o k q => by
            rw [hM, put_n (by omega), put_n (by omega), put_n (by omega), put_n (by omega)]
          have m8 : M' 412 8 = M 412 8 + 1 := by rw [hM]; exact put_e
          have m5 : ∀ k, M' 419 k = if k = nmB 0 + nmN M 0 then adv tx n s else M 419 k := fun k => by
            show M' 419 k = if k = 0 + M 412 8 then adv tx n s else M 419 k
            rw [Nat.zero_add, hM, put_n (by omega), put_n (by omega), put_n (by omega)]
            by_cases c : k = M 412 8
            · rw [if_pos c, c, put_e]
            · rw [if_neg c, put_n (by omega)]
          have m6 : M' 420 (M 412 8) = v.1 := by rw [hM, put_n (by omega), put_n (by omega), put_e]
          have m7 : M' 421 (M 412 8) = acc := by rw [hM, put_n (by omega), put_e]
          have V6 : RV (fun o k => ((o = 438 ∨ o = 439) ∧ k = M 412 8) ∨ (o = 412 ∧ k = 39)) (nmB 0 + M 412 8) h (h_si h5 412 39 (nI (M 412 8 + 1))) := (show RV _ _ h h5 from ⟨fun o k q1 q2 => V5.1 o k q1 (fun r => q2 (Or.inl r)), V5.2⟩).trans (RV.si (Or.inr ⟨rfl, rfl⟩))
          have j438 : h_iv (h_si h5 412 39 (nI (M 412 8 + 1))) 438 (M 412 8) = nI v.1 := by rw [si_ne (by omega)]; exact d438
          have j439 : h_iv (h_si h5 412 39 (nI (M 412 8 + 1))) 439 (M 412 8) = nI acc := by rw [si_ne (by omega)]; exact d439
          refine yi_good (a := (M', s')) (by rw [hM]; rfl) (G5.si (by unfold RX; omega) (by omega) (by omega)) ?_
          show RM tx n M' _
          refine R.add V6 ⟨by rw [si_at, m8], ?_, ?_, ?_, ?_⟩ (fun o k f => ?_) (fun k => ⟨e _ _ (by omega), e _ _ (by omega), by omega, by omega⟩) (ny_add R.2.2.2 hD (sN := 0) (s1 := adv tx n s) (by omega) (show M 412 8 < 12 from hc) m8 (fun so q1 q2 => ?_) m5 nd l5 V6.2)
          · rw [V6.1 _ _ (by unfold RSx; omega) (by omega), e _ _ (by omega)]; exact R.1.2.1
          · rw [V6.1 _ _ (by unfold RSx; omega) (by omega), e _ _ (by omega)]; exact R.1.2.2.1
          · rw [V6.1 _ _ (by unfold RSx; omega) (by omega), e _ _ (by omega)]; exact R.1.2.2.2.1
          · rw [V6.1 _ _ (by unfold RSx; omega) (by omega), e _ _ (by omega)]; exact R.1.2.2.2.2
          · have q9 := e 412 9 (by omega)
            have q10 := e 412 10 (by omega)
            have q11 := e 412 11 (by omega)
            rcases fil_addP m8 q9 q10 q11 (fun g => e 424 g (by omega)) (fun g => e 426 g (by omega)) (fun g => e 431 g (by omega)) (fun g => e 433 g (by omega)) f with q | ⟨c1, ck⟩
            · left
              have l := (fil_lt q).1
              have f1 := fil_in q
              have nv := nu_v o
              exact ⟨q, e o k (by omega), by omega⟩
            · right
              subst ck
              rcases c1 with c1 | c1 <;> subst c1
              · rw [m6]; exact j438
              · rw [m7]; exact j439
          · rcases (show so = 1 ∨ so = 2 ∨ so = 3 by omega) with r | r | r <;> subst r
            · exact e 412 9 (by omega)
            · exact e 412 10 (by omega)
            · exact e 412 11 (by omega)
        · rw [if_pos (fun q => t3 (te.mpr q))]
          obtain ⟨r8, h8, e8, hh⟩ := y_name X G5
          simp (maxSteps := 3000000) (disch := first | assumption | omega) only [bO_v, bR_v, bX_l, bX_r, bC_l, bC_r, aLet_v, nI_add, pk_mul, dvI_n, rmI_n, iMax_n, iMin_n, zO_0, zO_1, li_0, li_1, li_2, li_3, li_4, li_5, li_6, li_7, li_8, li_9, li_10, li_12, li_14, li_15, li_16, li_18, li_19, li_20, li_22, li_23, li_24, li_26, li_29, li_30, li_31, li_32, li_36, li_38, li_48, li_50, li_57, li_58, li_59, li_60, li_63, li_97, li_99, li_120, li_122, li_144, li_168, li_194, li_240, li_255, li_284, li_299, li_603, li_999, li_1200, li_1440, li_4095, li_4096, li_6030, li_16384, li_20160, zl0, zl1, zl2, zl3, zl4, ze01, ze02, ze03, ze04, ze10, ze12, ze13, ze14, ze20, ze21, ze23, ze24, ze30, ze31, ze32, ze34, ze40, ze41, ze42, ze43, zt0, zt1, zt2, zt3, zt4, zq0, zq1, zq2, zq3, zq4, it_t, it_f, Bool.true_eq_false, Bool.false_eq_true, na5, na4, na1441, na2, na10, sx_IOIA, sx_IOIS, sx_IONS, sx_IAIO, sx_IAIS, sx_IANS, sx_ISIO, sx_ISIA, sx_ISNS, sx_NSIO, sx_NSIA, sx_NSIS, r_cM_gS S5, e8, y_skillOf]
          refine aJ_gen (R := fun o => YP n h0 o _ B K) (fun k105 hk105 => ?_)
          have bad : ∀ e h9 sk, BE n h0 h9 e → h_iv h9 412 39 = nI (M 412 8) → h_iv h9 439 (M 412 8) = nI acc → sk < 16 → (sSkills tx n (n + 1) 0 v.2 = .inl e ∨ ∃ acc s', sSkills tx n (n + 1) 0 v.2 = .inr (acc, s') ∧ e = (1, s') ∧ tok tx n s' ≠ 3) → k105 h9 = bO (gr h9 12 412 46) (fun x11 => bO (gi h9 12 412 39) fun x12 => bO (ali h9 1 x11 x12) fun x13 => bO (asi h9 x11 x12 (x13 ||| nI sk)) fun h11 => rec h11) → YP n h0 (k105 h9) (sb (sSkills tx n (n + 1) 0 v.2) fun a => .inr (put (put (put (put M 419 (M 412 8) (adv tx n s)) 420 (M 412 8) v.1) 421 (M 412 8) a.1) 412 8 (M 412 8 + 1), a.2)) B K := fun e h9 sk b9 c9 a9 hsk hs ek => by
            have orr : nI acc ||| nI sk = nI (acc ||| sk) := fa_or _ _
            have ol : acc ||| sk < 16 := Nat.or_lt_two_pow (n := 4) ha hsk
            rw [ek]
            simp (maxSteps := 3000000) (disch := first | assumption | omega) only [bO_v, bR_v, bX_l, bX_r, bC_l, bC_r, aLet_v, nI_add, pk_mul, dvI_n, rmI_n, iMax_n, iMin_n, zO_0, zO_1, li_0, li_1, li_2, li_3, li_4, li_5, li_6, li_7, li_8, li_9, li_10, li_12, li_14, li_15, li_16, li_18, li_19, li_20, li_22, li_23, li_24, li_26, li_29, li_30, li_31, li_32, li_36, li_38, li_48, li_50, li_57, li_58, li_59, li_60, li_63, li_97, li_99, li_120, li_122, li_144, li_168, li_194, li_240, li_255, li_284, li_299, li_603, li_999, li_1200, li_1440, li_4095, li_4096, li_6030, li_16384, li_20160, zl0, zl1, zl2, zl3, zl4, ze01, ze02, ze03, ze04, ze10, ze12, ze13, ze14, ze20, ze21, ze23, ze24, ze30, ze31, ze32, ze34, ze40, ze41, ze42, ze43, zt0, zt1, zt2, zt3, zt4, zq0, zq1, zq2, zq3, zq4, it_t, it_f, Bool.true_eq_false, Bool.false_eq_true, na5, na4, na1441, na2, na10, sx_IOIA, sx_IOIS, sx_IONS, sx_IAIO, sx_IAIS, sx_IANS, sx_ISIO, sx_ISIA, sx_ISNS, sx_NSIO, sx_NSIA, sx_NSIS, r_p439 b9.1, r_cM_gi b9.1, c9, r_c439_al b9.1, a9, orr, r_c439_as b9.1]
            exact ih 0 _ (by omega) (Or.inr ⟨rfl, e, b9.si (by unfold RX; omega) (by omega) (by omega), by rw [si_ne (by omega)]; exact c9, hs⟩)
          cases nw : nmd tx n s'
          · rw [nw, if_pos rfl] at hh
            obtain ⟨b8, r1, rfl⟩ := hh
            have c8 : h_iv h8 412 39 = nI (M 412 8) := (r1 _ _ (by unfold RSx; omega)).trans c395
            have a8 : h_iv h8 439 (M 412 8) = nI acc := (r1 _ _ (by unfold RSx; omega)).trans d439
            simp (maxSteps := 3000000) (disch := first | assumption | omega) only [bO_v, bR_v, bX_l, bX_r, bC_l, bC_r, aLet_v, nI_add, pk_mul, dvI_n, rmI_n, iMax_n, iMin_n, zO_0, zO_1, li_0, li_1, li_2, li_3, li_4, li_5, li_6, li_7, li_8, li_9, li_10, li_12, li_14, li_15, li_16, li_18, li_19, li_20, li_22, li_23, li_24, li_26, li_29, li_30, li_31, li_32, li_36, li_38, li_48, li_50, li_57, li_58, li_59, li_60, li_63, li_97, li_99, li_120, li_122, li_144, li_168, li_194, li_240, li_255, li_284, li_299, li_603, li_999, li_1200, li_1440, li_4095, li_4096, li_6030, li_16384, li_20160, zl0, zl1, zl2, zl3, zl4, ze01, ze02, ze03, ze04, ze10, ze12, ze13, ze14, ze20, ze21, ze23, ze24, ze30, ze31, ze32, ze34, ze40, ze41, ze42, ze43, zt0, zt1, zt2, zt3, zt4, zq0, zq1, zq2, zq3, zq4, it_t, it_f, Bool.true_eq_false, Bool.false_eq_true, na5, na4, na1441, na2, na10, sx_IOIA, sx_IOIS, sx_IONS, sx_IAIO, sx_IAIS, sx_IANS, sx_ISIO, sx_ISIA, sx_ISNS, sx_NSIO, sx_NSIA, sx_NSIS, skv_0, z, r_cM_gi b8.1, r_cM_gS b8.1, y_faultB b8]
            obtain ⟨n1, n2⟩ := sSkill_no nw
            refine bad (1, s') h8 (skv 0) b8 c8 a8 (by rw [skv_0]; omega) ?_ (congrFun hk105 h8)
            by_cases t1 : tok tx n s' = 1
            · left
              rw [es, sSkills, if_neg (fun q => q t1), if_pos n1]
            · right
              exact ⟨acc, s', by rw [es, sSkills, if_pos t1], rfl, t3⟩
          · rw [nw, if_neg (by decide)] at hh
            obtain ⟨G8, Z8, rfl, a37⟩ := hh
            have S8 := G8.1
            have t1 : tok tx n s' = 1 := (of_decide_eq_true nw).1
            have c8 : h_iv h8 412 39 = nI (M 412 8) := (Z8.ri _ _ (by unfold RSx; omega)).trans c395
            have a8 : h_iv h8 439 (M 412 8) = nI acc := (Z8.ri _ _ (by unfold RSx; omega)).trans d439
            have sk16 : sSkill tx n s' < 16 := by rcases sSkill_v (tx := tx) (n := n) (s := s') with q | q | q | q | q <;> omega
            have an : nI acc &&& nI (sSkill tx n s') = nI (acc &&& sSkill tx n s') := fa_and _ _
            have al : acc &&& sSkill tx n s' < 16 := Nat.lt_of_le_of_lt Nat.and_le_left ha
            rw [skv_cd nw] at hk105 ⊢
            obtain ⟨q', q1, q2, q3⟩ := G8.2.2.2.2.1
            have flt : ∀ c, ∃ h9, m_X12_fault 412 (nI c) (nI s') h8 = some ((), h9) ∧ BE n h0 h9 (c, s') ∧ Fx RSx h8 h9 := fun c => y_fault (n := n) S8 G8.2.1 G8.2.2.1 G8.2.2.2.1 q1 q2
            simp (maxSteps := 3000000) (disch := first | assumption | omega) only [bO_v, bR_v, bX_l, bX_r, bC_l, bC_r, aLet_v, nI_add, pk_mul, dvI_n, rmI_n, iMax_n, iMin_n, zO_0, zO_1, li_0, li_1, li_2, li_3, li_4, li_5, li_6, li_7, li_8, li_9, li_10, li_12, li_14, li_15, li_16, li_18, li_19, li_20, li_22, li_23, li_24, li_26, li_29, li_30, li_31, li_32, li_36, li_38, li_48, li_50, li_57, li_58, li_59, li_60, li_63, li_97, li_99, li_120, li_122, li_144, li_168, li_194, li_240, li_255, li_284, li_299, li_603, li_999, li_1200, li_1440, li_4095, li_4096, li_6030, li_16384, li_20160, zl0, zl1, zl2, zl3, zl4, ze01, ze02, ze03, ze04, ze10, ze12, ze13, ze14, ze20, ze21, ze23, ze24, ze30, ze31, ze32, ze34, ze40, ze41, ze42, ze43, zt0, zt1, zt2, zt3, zt4, zq0, zq1, zq2, zq3, zq4, it_t, it_f, Bool.true_eq_false, Bool.false_eq_true, na5, na4, na1441, na2, na10, sx_IOIA, sx_IOIS, sx_IONS, sx_IAIO, sx_IAIS, sx_IANS, sx_ISIO, sx_ISIA, sx_ISNS, sx_NSIO, sx_NSIA, sx_NSIS, nI_eq, eq_self, r_p439 S8, r_cM_gi S8, c8, r_c439_al S8, a8, an, a37, r_cM_gS S8]
            by_cases s0 : sSkill tx n s' = 0
            · rw [if_pos s0]
              obtain ⟨h9, e9, b9, F9⟩ := flt 1
              rw [e9, bR_v]
              exact bad (1, s') h9 (sSkill tx n s') b9 ((F9.iv (by unfold RSx; omega)).trans c8) ((F9.iv (by unfold RSx; omega)).trans a8) sk16 (Or.inl (by rw [es, sSkills, if_neg (fun q => q t1), if_pos s0])) (congrFun hk105 h9)
            · rw [if_neg s0]
              by_cases sa : acc &&& sSkill tx n s' = 0
              · rw [if_pos sa, hk105]
                have orr : nI acc ||| nI (sSkill tx n s') = nI (acc ||| sSkill tx n s') := fa_or _ _
                have ol : acc ||| sSkill tx n s' < 16 := Nat.or_lt_two_pow (n := 4) ha sk16
                have ad := adv_gt (tx := tx) (tok1.mp t1).1
                simp (maxSteps := 3000000) (disch := first | assumption | omega) only [bO_v, bR_v, bX_l, bX_r, bC_l, bC_r, aLet_v, nI_add, pk_mul, dvI_n, rmI_n, iMax_n, iMin_n, zO_0, zO_1, li_0, li_1, li_2, li_3, li_4, li_5, li_6, li_7, li_8, li_9, li_10, li_12, li_14, li_15, li_16, li_18, li_19, li_20, li_22, li_23, li_24, li_26, li_29, li_30, li_31, li_32, li_36, li_38, li_48, li_50, li_57, li_58, li_59, li_60, li_63, li_97, li_99, li_120, li_122, li_144, li_168, li_194, li_240, li_255, li_284, li_299, li_603, li_999, li_1200, li_1440, li_4095, li_4096, li_6030, li_16384, li_20160, zl0, zl1, zl2, zl3, zl4, ze01, ze02, ze03, ze04, ze10, ze12, ze13, ze14, ze20, ze21, ze23, ze24, ze30, ze31, ze32, ze34, ze40, ze41, ze42, ze43, zt0, zt1, zt2, zt3, zt4, zq0, zq1, zq2, zq3, zq4, it_t, it_f, Bool.true_eq_false, Bool.false_eq_true, na5, na4, na1441, na2, na10, sx_IOIA, sx_IOIS, sx_IONS, sx_IAIO, sx_IAIS, sx_IANS, sx_ISIO, sx_ISIA, sx_ISNS, sx_NSIO, sx_NSIA, sx_NSIS, r_p439 S8, r_cM_gi S8, c8, r_c439_al S8, a8, orr, r_c439_as S8]
                refine ih (f + 1) _ (by omega) (Or.inl ⟨f, _, _, rfl, by omega, by rw [es, sSkills, if_neg (fun q => q t1), if_neg s0, if_neg (fun q => q sa)], ol, G8.si (by unfold RX; omega) (by omega) (by omega), (V5.trans Z8.rv).trans (RV.si ⟨Or.inr rfl, rfl⟩), ?_, si_at, ?_⟩)
                · rw [si_ne (by omega)]
                  exact (Z8.ri _ _ (by unfold RSx; omega)).trans d438
                · exact (Z8.2.2.2.2.2.2 _ _ (by omega)).trans l5
              · rw [if_neg sa]
                obtain ⟨h9, e9, b9, F9⟩ := flt 3
                rw [e9, bR_v]
                exact bad (3, s') h9 (sSkill tx n s') b9 ((F9.iv (by unfold RSx; omega)).trans c8) ((F9.iv (by unfold RSx; omega)).trans a8) sk16 (Or.inl (by rw [es, sSkills, if_neg (fun q => q t1), if_neg s0, if_pos sa])) (congrFun hk105 h9)
      · simp (maxSteps := 3000000) (disch := first | assumption | omega) only [m_X12_person_L42, bO_v, bR_v, bX_l, bX_r, bC_l, bC_r, aLet_v, nI_add, pk_mul, dvI_n, rmI_n, iMax_n, iMin_n, zO_0, zO_1, li_0, li_1, li_2, li_3, li_4, li_5, li_6, li_7, li_8, li_9, li_10, li_12, li_14, li_15, li_16, li_18, li_19, li_20, li_22, li_23, li_24, li_26, li_29, li_30, li_31, li_32, li_36, li_38, li_48, li_50, li_57, li_58, li_59, li_60, li_63, li_97, li_99, li_120, li_122, li_144, li_168, li_194, li_240, li_255, li_284, li_299, li_603, li_999, li_1200, li_1440, li_4095, li_4096, li_6030, li_16384, li_20160, zl0, zl1, zl2, zl3, zl4, ze01, ze02, ze03, ze04, ze10, ze12, ze13, ze14, ze20, ze21, ze23, ze24, ze30, ze31, ze32, ze34, ze40, ze41, ze42, ze43, zt0, zt1, zt2, zt3, zt4, zq0, zq1, zq2, zq3, zq4, it_t, it_f, Bool.true_eq_false, Bool.false_eq_true, na5, na4, na1441, na2, na10, sx_IOIA, sx_IOIS, sx_IONS, sx_IAIO, sx_IAIS, sx_IANS, sx_ISIO, sx_ISIA, sx_ISNS, sx_NSIO, sx_NSIA, sx_NSIS, r_cM_gi b.1, b.2.2.2.1, z1]
        rw [hk121]
        simp (maxSteps := 3000000) (disch := first | assumption | omega) only [bO_v, bR_v, bX_l, bX_r, bC_l, bC_r, aLet_v, nI_add, pk_mul, dvI_n, rmI_n, iMax_n, iMin_n, zO_0, zO_1, li_0, li_1, li_2, li_3, li_4, li_5, li_6, li_7, li_8, li_9, li_10, li_12, li_14, li_15, li_16, li_18, li_19, li_20, li_22, li_23, li_24, li_26, li_29, li_30, li_31, li_32, li_36, li_38, li_48, li_50, li_57, li_58, li_59, li_60, li_63, li_97, li_99, li_120, li_122, li_144, li_168, li_194, li_240, li_255, li_284, li_299, li_603, li_999, li_1200, li_1440, li_4095, li_4096, li_6030, li_16384, li_20160, zl0, zl1, zl2, zl3, zl4, ze01, ze02, ze03, ze04, ze10, ze12, ze13, ze14, ze20, ze21, ze23, ze24, ze30, ze31, ze32, ze34, ze40, ze41, ze42, ze43, zt0, zt1, zt2, zt3, zt4, zq0, zq1, zq2, zq3, zq4, it_t, it_f, Bool.true_eq_false, Bool.false_eq_true, na5, na4, na1441, na2, na10, sx_IOIA, sx_IOIS, sx_IONS, sx_IAIO, sx_IAIS, sx_IANS, sx_ISIO, sx_ISIA, sx_ISNS, sx_NSIO, sx_NSIA, sx_NSIS, r_cM_gi b.1, c39, r_cM_pi b.1]
        rw [← hB, ← hK]
        refine yi_bad (b.si (by unfold RX; omega) (by omega) (by omega)) ?_
        rcases hs with q | ⟨acc, s', q, q2, q3⟩
        · left; rw [q]; rfl
        · right; rw [q]; exact ⟨_, rfl, q2, q3⟩
end
