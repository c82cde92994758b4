/-! the reference's reader: an engine -/
section
variable {h h0 : aH} {tx : Nat → Nat} {n s : Nat} {M : Nat → Nat → Nat}
theorem y_eB {k : Int32 → aH → Option (Unit × aH)} {e : ER} {x : Int32} (b : BE n h0 h e) : aL1 (m_X12_engine_L35 412 k) FU x h = k x h := by
  have z1 : (nI 1 = nI 0) = False := eq_false (by decide)
  refine aL1_run (R := fun o => o = k x h) (fun m s1 g => m = 0 ∧ g = h ∧ s1 = x) ⟨rfl, rfl, rfl⟩ (by omega) ?_
  rintro rec m s1 g ⟨rfl, rfl, rfl⟩ ih
  simp (maxSteps := 3000000) (disch := first | assumption | omega) only [m_X12_engine_L35, bO_v, bR_v, bX_l, bX_r, bC_l, bC_r, aJ_v, aLet_v, nI_add, pk_mul, dvI_n, rmI_n, iMax_n, iMin_n, zO_0, zO_1, li_0, li_1, li_2, li_3, li_4, li_5, li_6, li_7, li_8, li_9, li_10, li_12, li_14, li_15, li_16, li_18, li_19, li_20, li_22, li_23, li_24, li_26, li_29, li_30, li_31, li_32, li_36, li_38, li_48, li_50, li_57, li_58, li_59, li_60, li_63, li_97, li_99, li_120, li_122, li_144, li_168, li_194, li_240, li_255, li_284, li_299, li_603, li_999, li_1200, li_1440, li_4095, li_4096, li_6030, li_16384, li_20160, zl0, zl1, zl2, zl3, zl4, ze01, ze02, ze03, ze04, ze10, ze12, ze13, ze14, ze20, ze21, ze23, ze24, ze30, ze31, ze32, ze34, ze40, ze41, ze42, ze43, zt0, zt1, zt2, zt3, zt4, zq0, zq1, zq2, zq3, zq4, it_t, it_f, Bool.true_eq_false, Bool.false_eq_true, na5, na4, na1441, na2, na10, sx_IOIA, sx_IOIS, sx_IONS, sx_IAIO, sx_IAIS, sx_IANS, sx_ISIO, sx_ISIA, sx_ISNS, sx_NSIO, sx_NSIA, sx_NSIS, r_cM_gi b.1, b.2.2.2.1, z1]
theorem y_engine (X : TR tx n h0) (w : WM M) (R : RM tx n M h) (G : GS tx n h0 h (adv tx n s)) (hc : M 412 10 < 5) : YP n h0 (m_X12_engine 412 h) (sEngine tx n M s) (fun _ _ => True) (YI tx n h0) := by
  have hD := w.1
  have d0 := hD.nP
  have d1 := hD.nG
  have d3 := hD.nK
  have z : (nI 0 = nI 0) = True := eq_self _
  have z1 : (nI 1 = nI 0) = False := eq_false (by decide)
  have x1 := X.1
  have g1 := G.1
  unfold sEngine
  rw [if_neg (by omega)]
  obtain ⟨_, h1, e1, hh⟩ := y_newName X G (so := 2) (cnt := M 412 10) (R.2.2.2 2 (by omega)) (show 18 + M 412 10 < 29 by omega)
  change m_X12_newName 412 (nI 18) (nI (M 412 10)) h = _ at e1
  simp (maxSteps := 3000000) (disch := first | assumption | omega) only [m_X12_engine, bO_v, bR_v, bX_l, bX_r, bC_l, bC_r, aLet_v, nI_add, pk_mul, dvI_n, rmI_n, iMax_n, iMin_n, zO_0, zO_1, li_0, li_1, li_2, li_3, li_4, li_5, li_6, li_7, li_8, li_9, li_10, li_12, li_14, li_15, li_16, li_18, li_19, li_20, li_22, li_23, li_24, li_26, li_29, li_30, li_31, li_32, li_36, li_38, li_48, li_50, li_57, li_58, li_59, li_60, li_63, li_97, li_99, li_120, li_122, li_144, li_168, li_194, li_240, li_255, li_284, li_299, li_603, li_999, li_1200, li_1440, li_4095, li_4096, li_6030, li_16384, li_20160, zl0, zl1, zl2, zl3, zl4, ze01, ze02, ze03, ze04, ze10, ze12, ze13, ze14, ze20, ze21, ze23, ze24, ze30, ze31, ze32, ze34, ze40, ze41, ze42, ze43, zt0, zt1, zt2, zt3, zt4, zq0, zq1, zq2, zq3, zq4, it_t, it_f, Bool.true_eq_false, Bool.false_eq_true, na5, na4, na1441, na2, na10, sx_IOIA, sx_IOIS, sx_IONS, sx_IAIO, sx_IAIS, sx_IANS, sx_ISIO, sx_ISIA, sx_ISNS, sx_NSIO, sx_NSIA, sx_NSIS, r_cM_gi g1, R.1.2.2.2.1, r_cM_gS g1, e1]
  cases es : sNew tx n M 2 (M 412 10) (adv tx n s) with
  | inl e =>
    rw [es] at hh
    obtain ⟨b1, r1⟩ := hh
    have c1 : h_iv h1 412 42 = nI (M 412 10) := (r1 _ _ (by unfold RSx; omega)).trans R.1.2.2.2.1
    have b2 := b1.si (o := 447) (k := M 412 10) (v := 0) (by unfold RX; omega) (by omega) (by omega)
    have c2 : h_iv (h_si h1 447 (M 412 10) (nI 0)) 412 42 = nI (M 412 10) := by rw [si_ne (by omega)]; exact c1
    simp (maxSteps := 3000000) (disch := first | assumption | omega) only [bO_v, bR_v, bX_l, bX_r, bC_l, bC_r, aJ_v, aLet_v, nI_add, pk_mul, dvI_n, rmI_n, iMax_n, iMin_n, zO_0, zO_1, li_0, li_1, li_2, li_3, li_4, li_5, li_6, li_7, li_8, li_9, li_10, li_12, li_14, li_15, li_16, li_18, li_19, li_20, li_22, li_23, li_24, li_26, li_29, li_30, li_31, li_32, li_36, li_38, li_48, li_50, li_57, li_58, li_59, li_60, li_63, li_97, li_99, li_120, li_122, li_144, li_168, li_194, li_240, li_255, li_284, li_299, li_603, li_999, li_1200, li_1440, li_4095, li_4096, li_6030, li_16384, li_20160, zl0, zl1, zl2, zl3, zl4, ze01, ze02, ze03, ze04, ze10, ze12, ze13, ze14, ze20, ze21, ze23, ze24, ze30, ze31, ze32, ze34, ze40, ze41, ze42, ze43, zt0, zt1, zt2, zt3, zt4, zq0, zq1, zq2, zq3, zq4, it_t, it_f, Bool.true_eq_false, Bool.false_eq_true, na5, na4, na1441, na2, na10, sx_IOIA, sx_IOIS, sx_IONS, sx_IAIO, sx_IAIS, sx_IANS, sx_ISIO, sx_ISIA, sx_ISNS, sx_NSIO, sx_NSIA, sx_NSIS, r_cM_gi b1.1, b1.2.2.2.1, z1, y_eB b1, r_p447 b1.1, c1, r_c447_as b1.1, r_cM_gi b2.1, c2, r_cM_pi b2.1]
    exact yi_bad (b2.si (by unfold RX; omega) (by omega) (by omega)) (Or.inl rfl)
  | inr s2 =>
    rw [es] at hh
    obtain ⟨G1, N1, l1, nd⟩ := hh
    have S1 := G1.1
    have c1 : h_iv h1 412 42 = nI (M 412 10) := (N1.2.2.2.2.2.1 _ _ (by unfold RSx; omega)).trans R.1.2.2.2.1
    obtain ⟨r, h2, e2, hh⟩ := y_number X G1 (lo := 0) (hi := 120) (by omega) (by omega)
    change YP n h0 _ (sb (sNum tx n s2 0 120) _) _ _
    generalize hK : YI tx n h0 = K
    generalize hB : (fun (_ : Unit) (_ : aH) => True) = B
    simp (maxSteps := 3000000) (disch := first | assumption | omega) only [bO_v, bR_v, bX_l, bX_r, bC_l, bC_r, aLet_v, nI_add, pk_mul, dvI_n, rmI_n, iMax_n, iMin_n, zO_0, zO_1, li_0, li_1, li_2, li_3, li_4, li_5, li_6, li_7, li_8, li_9, li_10, li_12, li_14, li_15, li_16, li_18, li_19, li_20, li_22, li_23, li_24, li_26, li_29, li_30, li_31, li_32, li_36, li_38, li_48, li_50, li_57, li_58, li_59, li_60, li_63, li_97, li_99, li_120, li_122, li_144, li_168, li_194, li_240, li_255, li_284, li_299, li_603, li_999, li_1200, li_1440, li_4095, li_4096, li_6030, li_16384, li_20160, zl0, zl1, zl2, zl3, zl4, ze01, ze02, ze03, ze04, ze10, ze12, ze13, ze14, ze20, ze21, ze23, ze24, ze30, ze31, ze32, ze34, ze40, ze41, ze42, ze43, zt0, zt1, zt2, zt3, zt4, zq0, zq1, zq2, zq3, zq4, it_t, it_f, Bool.true_eq_false, Bool.false_eq_true, na5, na4, na1441, na2, na10, sx_IOIA, sx_IOIS, sx_IONS, sx_IAIO, sx_IAIS, sx_IANS, sx_ISIO, sx_ISIA, sx_ISNS, sx_NSIO, sx_NSIA, sx_NSIS, r_cM_gi S1, G1.2.2.2.1, z, r_p446 S1, c1, r_cM_gS S1, e2]
    refine aJ_gen (R := fun o => YP n h0 o _ B K) (fun k33 hk33 => ?_)
    cases en : sNum tx n s2 0 120 with
    | inl e =>
      rw [en] at hh
      obtain ⟨b2, Z2, v, hv, rfl⟩ := hh
      have c2 : h_iv h2 412 42 = nI (M 412 10) := (Z2.ri _ _ (by unfold RSx; omega)).trans c1
      have b3 := b2.si (o := 446) (k := M 412 10) (v := v) (by unfold RX; omega) (by omega) (by omega)
      have c3 : h_iv (h_si h2 446 (M 412 10) (nI v)) 412 42 = nI (M 412 10) := by rw [si_ne (by omega)]; exact c2
      have b4 := b3.si (o := 447) (k := M 412 10) (v := 0) (by unfold RX; omega) (by omega) (by omega)
      have c4 : h_iv (h_si (h_si h2 446 (M 412 10) (nI v)) 447 (M 412 10) (nI 0)) 412 42 = nI (M 412 10) := by rw [si_ne (by omega)]; exact c3
      simp (maxSteps := 3000000) (disch := first | assumption | omega) only [bO_v, bR_v, bX_l, bX_r, bC_l, bC_r, aJ_v, aLet_v, nI_add, pk_mul, dvI_n, rmI_n, iMax_n, iMin_n, zO_0, zO_1, li_0, li_1, li_2, li_3, li_4, li_5, li_6, li_7, li_8, li_9, li_10, li_12, li_14, li_15, li_16, li_18, li_19, li_20, li_22, li_23, li_24, li_26, li_29, li_30, li_31, li_32, li_36, li_38, li_48, li_50, li_57, li_58, li_59, li_60, li_63, li_97, li_99, li_120, li_122, li_144, li_168, li_194, li_240, li_255, li_284, li_299, li_603, li_999, li_1200, li_1440, li_4095, li_4096, li_6030, li_16384, li_20160, zl0, zl1, zl2, zl3, zl4, ze01, ze02, ze03, ze04, ze10, ze12, ze13, ze14, ze20, ze21, ze23, ze24, ze30, ze31, ze32, ze34, ze40, ze41, ze42, ze43, zt0, zt1, zt2, zt3, zt4, zq0, zq1, zq2, zq3, zq4, it_t, it_f, Bool.true_eq_false, Bool.false_eq_true, na5, na4, na1441, na2, na10, sx_IOIA, sx_IOIS, sx_IONS, sx_IAIO, sx_IAIS, sx_IANS, sx_ISIO, sx_ISIA, sx_ISNS, sx_NSIO, sx_NSIA, sx_NSIS, r_c446_as b2.1, hk33, r_cM_gi b3.1, b3.2.2.2.1, z1, y_eB b3, r_p447 b3.1, c3, r_c447_as b3.1, r_cM_gi b4.1, c4, r_cM_pi b4.1]
      rw [← hB, ← hK]
      exact yi_bad (b4.si (by unfold RX; omega) (by omega) (by omega)) (Or.inl rfl)
    | inr v =>
      rw [en] at hh
      obtain ⟨G2, Z2, rfl, -⟩ := hh
      obtain ⟨-, -, v3, -⟩ := sNum_inr en
      have S2 := G2.1
      have G5 := G2.si (o := 446) (k := M 412 10) (v := v.1) (by unfold RX; omega) (by omega) (by omega)
      simp (maxSteps := 3000000) (disch := first | assumption | omega) only [bO_v, bR_v, bX_l, bX_r, bC_l, bC_r, aLet_v, nI_add, pk_mul, dvI_n, rmI_n, iMax_n, iMin_n, zO_0, zO_1, li_0, li_1, li_2, li_3, li_4, li_5, li_6, li_7, li_8, li_9, li_10, li_12, li_14, li_15, li_16, li_18, li_19, li_20, li_22, li_23, li_24, li_26, li_29, li_30, li_31, li_32, li_36, li_38, li_48, li_50, li_57, li_58, li_59, li_60, li_63, li_97, li_99, li_120, li_122, li_144, li_168, li_194, li_240, li_255, li_284, li_299, li_603, li_999, li_1200, li_1440, li_4095, li_4096, li_6030, li_16384, li_20160, zl0, zl1, zl2, zl3, zl4, ze01, ze02, ze03, ze04, ze10, ze12, ze13, ze14, ze20, ze21, ze23, ze24, ze30, ze31, ze32, ze34, ze40, ze41, ze42, ze43, zt0, zt1, zt2, zt3, zt4, zq0, zq1, zq2, zq3, zq4, it_t, it_f, Bool.true_eq_false, Bool.false_eq_true, na5, na4, na1441, na2, na10, sx_IOIA, sx_IOIS, sx_IONS, sx_IAIO, sx_IAIS, sx_IANS, sx_ISIO, sx_ISIA, sx_ISNS, sx_NSIO, sx_NSIA, sx_NSIS, r_c446_as S2, hk33]
      have V5 : RV (fun o k => ((o = 446 ∨ o = 447) ∧ k = M 412 10) ∨ (o = 448 ∧ 6 * M 412 10 ≤ k)) (nmB 2 + M 412 10) h (h_si h2 446 (M 412 10) (nI v.1)) := (N1.rv.trans Z2.rv).trans (RV.si (Or.inl ⟨Or.inl rfl, rfl⟩))
      have a446 : h_iv (h_si h2 446 (M 412 10) (nI v.1)) 446 (M 412 10) = nI v.1 := si_at
      have l5 : h_lv (h_si h2 446 (M 412 10) (nI v.1)) 437 (nmB 2 + M 412 10) = lN (cd tx n (adv tx n s)) := (Z2.2.2.2.2.2.2 _ _ (by omega)).trans l1
      generalize h_si h2 446 (M 412 10) (nI v.1) = g5 at *
      refine aJ_gen (R := fun o => YP n h0 o _ B K) (fun k144 hk144 => ?_)
      generalize hM0 : put (put M 419 (18 + M 412 10) (adv tx n s)) 425 (M 412 10) v.1 = M0
      have e0 : ∀ o k, ¬ (o = 419 ∨ (o = 425 ∧ k = M 412 10)) → M0 o k = M o k := fun o k r => by rw [← hM0, put_n (by omega), put_n (by omega)]
      change YP n h0 _ (sb (sPosts tx n (M 412 10) (n + 2) (put (put M 419 (18 + M 412 10) (adv tx n s)) 425 (M 412 10) v.1) 0 v.2) fun r => .inr (put (put r.1 426 (M 412 10) r.2.1) 412 10 (M 412 10 + 1), r.2.2)) B K
      rw [hM0]
      refine aL1_run (R := fun o => YP n h0 o (sb (sPosts tx n (M 412 10) (n + 2) M0 0 v.2) fun r => .inr (put (put r.1 426 (M 412 10) r.2.1) 412 10 (M 412 10 + 1), r.2.2)) B K) (fun m s1 g => (∃ f c s' M1, m = f + 1 ∧ s1 = nI c ∧ c ≤ 6 ∧ n + 1 < s' + f ∧ sPosts tx n (M 412 10) (n + 2) M0 0 v.2 = sPosts tx n (M 412 10) f M1 c s' ∧ GS tx n h0 g s' ∧ RV (fun o k => ((o = 446 ∨ o = 447) ∧ k = M 412 10) ∨ (o = 448 ∧ 6 * M 412 10 ≤ k)) (nmB 2 + M 412 10) h g ∧ h_iv g 446 (M 412 10) = nI v.1 ∧ h_lv g 437 (nmB 2 + M 412 10) = lN (cd tx n (adv tx n s)) ∧ (∀ j, j < c → h_iv g 448 (6 * M 412 10 + j) = nI (M1 427 (6 * M 412 10 + j))) ∧ ∀ o k, ¬ (o = 427 ∧ 6 * M 412 10 ≤ k) → M1 o k = M0 o k) ∨ (m = 0 ∧ ∃ e j, s1 = nI j ∧ j ≤ 6 ∧ BE n h0 g e ∧ h_iv g 412 42 = nI (M 412 10) ∧ (sPosts tx n (M 412 10) (n + 2) M0 0 v.2 = .inl e ∨ ∃ M1 c s', sPosts tx n (M 412 10) (n + 2) M0 0 v.2 = .inr (M1, c, s') ∧ e = (1, s') ∧ tok tx n s' ≠ 3))) (Or.inl ⟨n + 2, 0, v.2, M0, rfl, rfl, Nat.zero_le _, by omega, rfl, G5, V5, a446, l5, fun j r => absurd r (Nat.not_lt_zero j), fun _ _ _ => rfl⟩) (by omega) ?_
      rintro rec m s1 g (⟨f, c, s', M1, rfl, rfl, hc8, hf, es, Gg, Vg, b446, lg, b448, eM1⟩ | ⟨rfl, e, j, rfl, hj, b, c42, hs⟩) ih
      · have Sg := Gg.1
        have sl := Gg.le
        obtain ⟨pp, pp1, pp2, pp3⟩ := Gg.2.2.2.2.1
        obtain ⟨r5, h5, e5, rfl, F5, a5⟩ := y_isNext Sg (X.ry Gg.2.1) pp2 pp1 pp3 (c := 59) (by omega)
        have Z5 : RZ g h5 := RZ.fx F5 (fun o k r => by unfold RSx; omega)
        have G5 : GS tx n h0 h5 s' := Gg.rz Z5 ⟨F5.iv (by omega), F5.iv (by omega), F5.iv (by omega)⟩ ⟨s', sl.1, a5, sl.2⟩
        have te := tokS (tx := tx) (n := n) (s := s') (Or.inl ⟨rfl, rfl⟩)
        obtain ⟨f, rfl⟩ : ∃ f', f = f' + 1 := ⟨f - 1, by omega⟩
        simp (maxSteps := 3000000) (disch := first | assumption | omega) only [m_X12_engine_L35, bO_v, bR_v, bX_l, bX_r, bC_l, bC_r, aLet_v, nI_add, pk_mul, dvI_n, rmI_n, iMax_n, iMin_n, zO_0, zO_1, li_0, li_1, li_2, li_3, li_4, li_5, li_6, li_7, li_8, li_9, li_10, li_12, li_14, li_15, li_16, li_18, li_19, li_20, li_22, li_23, li_24, li_26, li_29, li_30, li_31, li_32, li_36, li_38, li_48, li_50, li_57, li_58, li_59, li_60, li_63, li_97, li_99, li_120, li_122, li_144, li_168, li_194, li_240, li_255, li_284, li_299, li_603, li_999, li_1200, li_1440, li_4095, li_4096, li_6030, li_16384, li_20160, zl0, zl1, zl2, zl3, zl4, ze01, ze02, ze03, ze04, ze10, ze12, ze13, ze14, ze20, ze21, ze23, ze24, ze30, ze31, ze32, ze34, ze40, ze41, ze42, ze43, zt0, zt1, zt2, zt3, zt4, zq0, zq1, zq2, zq3, zq4, it_t, it_f, Bool.true_eq_false, Bool.false_eq_true, na5, na4, na1441, na2, na10, sx_IOIA, sx_IOIS, sx_IONS, sx_IAIO, sx_IAIS, sx_IANS, sx_ISIO, sx_ISIA, sx_ISNS, sx_NSIO, sx_NSIA, sx_NSIS, r_cM_gi Sg, Gg.2.2.2.1, z, r_cM_gS Sg, e5, b2i_0, decide_eq_false_iff_not, nI_eq, eq_self]
        refine aJ_gen (R := fun o => YP n h0 o _ B K) (fun k55 hk55 => ?_)
        have go : ∀ g6, RZ g g6 → GS tx n h0 g6 s' → (c = 0 ∨ tok tx n s' ≠ 3) → YP n h0 (k55 g6) (sb (sPosts tx n (M 412 10) (n + 2) M0 0 v.2) fun r => .inr (put (put r.1 426 (M 412 10) r.2.1) 412 10 (M 412 10 + 1), r.2.2)) B K := fun g6 Z6 G6 ht => by
          have S6 := G6.1
          have V6 := Vg.trans Z6.rv
          have c42 : h_iv g6 412 42 = nI (M 412 10) := (V6.1 _ _ (by unfold RSx; omega) (by omega)).trans R.1.2.2.2.1
          obtain ⟨r, h9, e9, hh⟩ := y_name X G6
          rw [hk55]
          simp (maxSteps := 3000000) (disch := first | assumption | omega) only [bO_v, bR_v, bX_l, bX_r, bC_l, bC_r, aLet_v, nI_add, pk_mul, dvI_n, rmI_n, iMax_n, iMin_n, zO_0, zO_1, li_0, li_1, li_2, li_3, li_4, li_5, li_6, li_7, li_8, li_9, li_10, li_12, li_14, li_15, li_16, li_18, li_19, li_20, li_22, li_23, li_24, li_26, li_29, li_30, li_31, li_32, li_36, li_38, li_48, li_50, li_57, li_58, li_59, li_60, li_63, li_97, li_99, li_120, li_122, li_144, li_168, li_194, li_240, li_255, li_284, li_299, li_603, li_999, li_1200, li_1440, li_4095, li_4096, li_6030, li_16384, li_20160, zl0, zl1, zl2, zl3, zl4, ze01, ze02, ze03, ze04, ze10, ze12, ze13, ze14, ze20, ze21, ze23, ze24, ze30, ze31, ze32, ze34, ze40, ze41, ze42, ze43, zt0, zt1, zt2, zt3, zt4, zq0, zq1, zq2, zq3, zq4, it_t, it_f, Bool.true_eq_false, Bool.false_eq_true, na5, na4, na1441, na2, na10, sx_IOIA, sx_IOIS, sx_IONS, sx_IAIO, sx_IAIS, sx_IANS, sx_ISIO, sx_ISIA, sx_ISNS, sx_NSIO, sx_NSIA, sx_NSIS, r_cM_gS S6, e9]
          cases nw : nmd tx n s'
          · rw [nw, if_pos rfl] at hh
            obtain ⟨b9, r9, rfl⟩ := hh
            simp (maxSteps := 3000000) (disch := first | assumption | omega) only [bO_v, bR_v, bX_l, bX_r, bC_l, bC_r, aJ_v, aLet_v, nI_add, pk_mul, dvI_n, rmI_n, iMax_n, iMin_n, zO_0, zO_1, li_0, li_1, li_2, li_3, li_4, li_5, li_6, li_7, li_8, li_9, li_10, li_12, li_14, li_15, li_16, li_18, li_19, li_20, li_22, li_23, li_24, li_26, li_29, li_30, li_31, li_32, li_36, li_38, li_48, li_50, li_57, li_58, li_59, li_60, li_63, li_97, li_99, li_120, li_122, li_144, li_168, li_194, li_240, li_255, li_284, li_299, li_603, li_999, li_1200, li_1440, li_4095, li_4096, li_6030, li_16384, li_20160, zl0, zl1, zl2, zl3, zl4, ze01, ze02, ze03, ze04, ze10, ze12, ze13, ze14, ze20, ze21, ze23, ze24, ze30, ze31, ze32, ze34, ze40, ze41, ze42, ze43, zt0, zt1, zt2, zt3, zt4, zq0, zq1, zq2, zq3, zq4, it_t, it_f, Bool.true_eq_false, Bool.false_eq_true, na5, na4, na1441, na2, na10, sx_IOIA, sx_IOIS, sx_IONS, sx_IAIO, sx_IAIS, sx_IANS, sx_ISIO, sx_ISIA, sx_ISNS, sx_NSIO, sx_NSIA, sx_NSIS, r_cM_gi b9.1, b9.2.2.2.1, z1]
            refine ih 0 _ _ (by omega) (Or.inr ⟨rfl, (1, s'), c, rfl, hc8, b9, (r9 _ _ (by unfold RSx; omega)).trans c42, ?_⟩)
            obtain ⟨n1, n2⟩ := sSkill_no nw
            by_cases ct : c ≠ 0 ∧ tok tx n s' ≠ 1
            · right
              exact ⟨M1, c, s', by rw [es, sPosts, if_pos ct], rfl, by omega⟩
            · left
              rw [es, sPosts, if_neg ct, if_pos ⟨n2 _, n1⟩]
          · rw [nw, if_neg (by decide)] at hh
            obtain ⟨G9, Z9, rfl, a37⟩ := hh
            have S9 := G9.1
            have t1 : tok tx n s' = 1 := (of_decide_eq_true nw).1
            have ad := adv_gt (tx := tx) (nmd_in nw)
            have ct : ¬ (c ≠ 0 ∧ tok tx n s' ≠ 1) := fun q => q.2 t1
            have c443 : h_iv h9 412 42 = nI (M 412 10) := (Z9.ri _ _ (by unfold RSx; omega)).trans c42
            have ci := cd_is nw (c := 1132) (w := 1132) (by decide) rfl
            obtain ⟨q', q1, q2, q3⟩ := G9.2.2.2.2.1
            have flt : ∀ x, ∃ h10, m_X12_fault 412 (nI x) (nI s') h9 = some ((), h10) ∧ BE n h0 h10 (x, s') ∧ Fx RSx h9 h10 := fun x => y_fault (n := n) S9 G9.2.1 G9.2.2.1 G9.2.2.2.1 q1 q2
            have sk16 : sSkill tx n s' < 16 := by rcases sSkill_v (tx := tx) (n := n) (s := s') with q | q | q | q | q <;> omega
            simp (maxSteps := 3000000) (disch := first | assumption | omega) only [bO_v, bR_v, bX_l, bX_r, bC_l, bC_r, aLet_v, nI_add, pk_mul, dvI_n, rmI_n, iMax_n, iMin_n, zO_0, zO_1, li_0, li_1, li_2, li_3, li_4, li_5, li_6, li_7, li_8, li_9, li_10, li_12, li_14, li_15, li_16, li_18, li_19, li_20, li_22, li_23, li_24, li_26, li_29, li_30, li_31, li_32, li_36, li_38, li_48, li_50, li_57, li_58, li_59, li_60, li_63, li_97, li_99, li_120, li_122, li_144, li_168, li_194, li_240, li_255, li_284, li_299, li_603, li_999, li_1200, li_1440, li_4095, li_4096, li_6030, li_16384, li_20160, zl0, zl1, zl2, zl3, zl4, ze01, ze02, ze03, ze04, ze10, ze12, ze13, ze14, ze20, ze21, ze23, ze24, ze30, ze31, ze32, ze34, ze40, ze41, ze42, ze43, zt0, zt1, zt2, zt3, zt4, zq0, zq1, zq2, zq3, zq4, it_t, it_f, Bool.true_eq_false, Bool.false_eq_true, na5, na4, na1441, na2, na10, sx_IOIA, sx_IOIS, sx_IONS, sx_IAIO, sx_IAIS, sx_IANS, sx_ISIO, sx_ISIA, sx_ISNS, sx_NSIO, sx_NSIA, sx_NSIS, r_cM_gi S9, G9.2.2.2.1, z, lgc_eqn, ci, y_skillOf, skv_cd nw, nI_eq, eq_self, a37, r_cM_gS S9]
            refine aJ_gen (R := fun o => YP n h0 o _ B K) (fun k91 hk91 => ?_)
            have yes : ¬ (isWd tx n s' 1132 = false ∧ sSkill tx n s' = 0) → YP n h0 (k91 h9) (sb (sPosts tx n (M 412 10) (n + 2) M0 0 v.2) fun r => .inr (put (put r.1 426 (M 412 10) r.2.1) 412 10 (M 412 10 + 1), r.2.2)) B K := fun hy => by
              rw [hk91]
              simp (maxSteps := 3000000) (disch := first | assumption | omega) only [bO_v, bR_v, bX_l, bX_r, bC_l, bC_r, aLet_v, nI_add, pk_mul, dvI_n, rmI_n, iMax_n, iMin_n, zO_0, zO_1, li_0, li_1, li_2, li_3, li_4, li_5, li_6, li_7, li_8, li_9, li_10, li_12, li_14, li_15, li_16, li_18, li_19, li_20, li_22, li_23, li_24, li_26, li_29, li_30, li_31, li_32, li_36, li_38, li_48, li_50, li_57, li_58, li_59, li_60, li_63, li_97, li_99, li_120, li_122, li_144, li_168, li_194, li_240, li_255, li_284, li_299, li_603, li_999, li_1200, li_1440, li_4095, li_4096, li_6030, li_16384, li_20160, zl0, zl1, zl2, zl3, zl4, ze01, ze02, ze03, ze04, ze10, ze12, ze13, ze14, ze20, ze21, ze23, ze24, ze30, ze31, ze32, ze34, ze40, ze41, ze42, ze43, zt0, zt1, zt2, zt3, zt4, zq0, zq1, zq2, zq3, zq4, it_t, it_f, Bool.true_eq_false, Bool.false_eq_true, na5, na4, na1441, na2, na10, sx_IOIA, sx_IOIS, sx_IONS, sx_IAIO, sx_IAIS, sx_IANS, sx_ISIO, sx_ISIA, sx_ISNS, sx_NSIO, sx_NSIA, sx_NSIS, r_cM_gi S9, G9.2.2.2.1, z, nI_eq, eq_self, a37, r_cM_gS S9]
              refine aJ_gen (R := fun o => YP n h0 o _ B K) (fun k113 hk113 => ?_)
              by_cases c6 : c = 6
              · rw [if_pos c6]
                obtain ⟨h10, e10, b10, F10⟩ := flt 5
                rw [e10, bR_v, hk113]
                simp (maxSteps := 3000000) (disch := first | assumption | omega) only [bO_v, bR_v, bX_l, bX_r, bC_l, bC_r, aJ_v, aLet_v, nI_add, pk_mul, dvI_n, rmI_n, iMax_n, iMin_n, zO_0, zO_1, li_0, li_1, li_2, li_3, li_4, li_5, li_6, li_7, li_8, li_9, li_10, li_12, li_14, li_15, li_16, li_18, li_19, li_20, li_22, li_23, li_24, li_26, li_29, li_30, li_31, li_32, li_36, li_38, li_48, li_50, li_57, li_58, li_59, li_60, li_63, li_97, li_99, li_120, li_122, li_144, li_168, li_194, li_240, li_255, li_284, li_299, li_603, li_999, li_1200, li_1440, li_4095, li_4096, li_6030, li_16384, li_20160, zl0, zl1, zl2, zl3, zl4, ze01, ze02, ze03, ze04, ze10, ze12, ze13, ze14, ze20, ze21, ze23, ze24, ze30, ze31, ze32, ze34, ze40, ze41, ze42, ze43, zt0, zt1, zt2, zt3, zt4, zq0, zq1, zq2, zq3, zq4, it_t, it_f, Bool.true_eq_false, Bool.false_eq_true, na5, na4, na1441, na2, na10, sx_IOIA, sx_IOIS, sx_IONS, sx_IAIO, sx_IAIS, sx_IANS, sx_ISIO, sx_ISIA, sx_ISNS, sx_NSIO, sx_NSIA, sx_NSIS, r_cM_gi b10.1, b10.2.2.2.1, z1]
                refine ih 0 _ _ (by omega) (Or.inr ⟨rfl, (5, s'), c, rfl, hc8, b10, (F10.iv (by unfold RSx; omega)).trans c443, Or.inl ?_⟩)
                rw [es, sPosts, if_neg ct, if_neg hy, if_pos c6]
              · rw [if_neg c6, hk113]
                have G10 := G9.si (o := 448) (k := 6 * M 412 10 + c) (v := sSkill tx n s') (by unfold RX; omega) (by omega) (by omega)
                simp (maxSteps := 3000000) (disch := first | assumption | omega) only [bO_v, bR_v, bX_l, bX_r, bC_l, bC_r, aJ_v, aLet_v, nI_add, pk_mul, dvI_n, rmI_n, iMax_n, iMin_n, zO_0, zO_1, li_0, li_1, li_2, li_3, li_4, li_5, li_6, li_7, li_8, li_9, li_10, li_12, li_14, li_15, li_16, li_18, li_19, li_20, li_22, li_23, li_24, li_26, li_29, li_30, li_31, li_32, li_36, li_38, li_48, li_50, li_57, li_58, li_59, li_60, li_63, li_97, li_99, li_120, li_122, li_144, li_168, li_194, li_240, li_255, li_284, li_299, li_603, li_999, li_1200, li_1440, li_4095, li_4096, li_6030, li_16384, li_20160, zl0, zl1, zl2, zl3, zl4, ze01, ze02, ze03, ze04, ze10, ze12, ze13, ze14, ze20, ze21, ze23, ze24, ze30, ze31, ze32, ze34, ze40, ze41, ze42, ze43, zt0, zt1, zt2, zt3, zt4, zq0, zq1, zq2, zq3, zq4, it_t, it_f, Bool.true_eq_false, Bool.false_eq_true, na5, na4, na1441, na2, na10, sx_IOIA, sx_IOIS, sx_IONS, sx_IAIO, sx_IAIS, sx_IANS, sx_ISIO, sx_ISIA, sx_ISNS, sx_NSIO, sx_NSIA, sx_NSIS, r_cM_gi S9, G9.2.2.2.1, z, r_p448 S9, c443, y_skillOf, skv_cd nw, r_c448_as S9]
                have e2 : sPosts tx n (M 412 10) (n + 2) M0 0 v.2 = sPosts tx n (M 412 10) f (put M1 427 (6 * M 412 10 + c) (sSkill tx n s')) (c + 1) (adv tx n s') := by
                  rw [es, sPosts, if_neg ct, if_neg hy, if_neg c6]
                refine ih (f + 1) _ _ (by omega) (Or.inl ⟨f, c + 1, adv tx n s', _, rfl, rfl, by omega, by omega, e2, G10, (V6.trans Z9.rv).trans (RV.si (Or.inr ⟨rfl, by omega⟩)), ?_, ?_, fun j hj => ?_, fun o k r => ?_⟩)
                · rw [si_ne (by omega), Z9.ri _ _ (by unfold RSx; omega), Z6.ri _ _ (by unfold RSx; omega)]; exact b446
                · exact (Z9.2.2.2.2.2.2 _ _ (by omega)).trans ((Z6.2.2.2.2.2.2 _ _ (by omega)).trans lg)
                · by_cases cj : j = c
                  · rw [cj, si_at, put_e]
                  · rw [si_ne (by omega), put_n (by omega), Z9.ri _ _ (by unfold RSx; omega), Z6.ri _ _ (by unfold RSx; omega)]; exact b448 j (by omega)
                · rw [put_n (by omega)]; exact eM1 o k r
            by_cases wa : isWd tx n s' 1132 = true
            · rw [if_pos wa]
              exact yes (fun q => by rw [wa] at q; cases q.1)
            · rw [if_neg wa]
              by_cases s0 : sSkill tx n s' = 0
              · rw [if_pos s0]
                obtain ⟨h10, e10, b10, F10⟩ := flt 1
                rw [e10, bR_v, hk91]
                simp (maxSteps := 3000000) (disch := first | assumption | omega) only [bO_v, bR_v, bX_l, bX_r, bC_l, bC_r, aJ_v, aLet_v, nI_add, pk_mul, dvI_n, rmI_n, iMax_n, iMin_n, zO_0, zO_1, li_0, li_1, li_2, li_3, li_4, li_5, li_6, li_7, li_8, li_9, li_10, li_12, li_14, li_15, li_16, li_18, li_19, li_20, li_22, li_23, li_24, li_26, li_29, li_30, li_31, li_32, li_36, li_38, li_48, li_50, li_57, li_58, li_59, li_60, li_63, li_97, li_99, li_120, li_122, li_144, li_168, li_194, li_240, li_255, li_284, li_299, li_603, li_999, li_1200, li_1440, li_4095, li_4096, li_6030, li_16384, li_20160, zl0, zl1, zl2, zl3, zl4, ze01, ze02, ze03, ze04, ze10, ze12, ze13, ze14, ze20, ze21, ze23, ze24, ze30, ze31, ze32, ze34, ze40, ze41, ze42, ze43, zt0, zt1, zt2, zt3, zt4, zq0, zq1, zq2, zq3, zq4, it_t, it_f, Bool.true_eq_false, Bool.false_eq_true, na5, na4, na1441, na2, na10, sx_IOIA, sx_IOIS, sx_IONS, sx_IAIO, sx_IAIS, sx_IANS, sx_ISIO, sx_ISIA, sx_ISNS, sx_NSIO, sx_NSIA, sx_NSIS, r_cM_gi b10.1, b10.2.2.2.1, z1]
                refine ih 0 _ _ (by omega) (Or.inr ⟨rfl, (1, s'), c, rfl, hc8, b10, (F10.iv (by unfold RSx; omega)).trans c443, Or.inl ?_⟩)
                rw [es, sPosts, if_neg ct, if_pos ⟨Bool.not_eq_true _ ▸ wa, s0⟩]
              · rw [if_neg s0]
                exact yes (fun q => s0 q.2)
        by_cases c0 : c = 0
        · rw [if_pos c0]; exact go g RZ.rf Gg (Or.inl c0)
        · rw [if_neg c0]
          by_cases t3 : tok tx n s' = 3
          · rw [if_neg (fun q => q (te.mp t3)), hk144]
            have e9 : sPosts tx n (M 412 10) (n + 2) M0 0 v.2 = .inr (M1, c, s') := by rw [es, sPosts, if_pos ⟨c0, by omega⟩]
            rw [e9]
            have S5 := G5.1
            have V5' := Vg.trans Z5.rv
            have c439 : h_iv h5 412 42 = nI (M 412 10) := (V5'.1 _ _ (by unfold RSx; omega) (by omega)).trans R.1.2.2.2.1
            have G6 := G5.si (o := 447) (k := M 412 10) (v := c) (by unfold RX; omega) (by omega) (by omega)
            have c440 : h_iv (h_si h5 447 (M 412 10) (nI c)) 412 42 = nI (M 412 10) := by rw [si_ne (by omega)]; exact c439
            simp (maxSteps := 3000000) (disch := first | assumption | omega) only [bO_v, bR_v, bX_l, bX_r, bC_l, bC_r, aLet_v, nI_add, pk_mul, dvI_n, rmI_n, iMax_n, iMin_n, zO_0, zO_1, li_0, li_1, li_2, li_3, li_4, li_5, li_6, li_7, li_8, li_9, li_10, li_12, li_14, li_15, li_16, li_18, li_19, li_20, li_22, li_23, li_24, li_26, li_29, li_30, li_31, li_32, li_36, li_38, li_48, li_50, li_57, li_58, li_59, li_60, li_63, li_97, li_99, li_120, li_122, li_144, li_168, li_194, li_240, li_255, li_284, li_299, li_603, li_999, li_1200, li_1440, li_4095, li_4096, li_6030, li_16384, li_20160, zl0, zl1, zl2, zl3, zl4, ze01, ze02, ze03, ze04, ze10, ze12, ze13, ze14, ze20, ze21, ze23, ze24, ze30, ze31, ze32, ze34, ze40, ze41, ze42, ze43, zt0, zt1, zt2, zt3, zt4, zq0, zq1, zq2, zq3, zq4, it_t, it_f, Bool.true_eq_false, Bool.false_eq_true, na5, na4, na1441, na2, na10, sx_IOIA, sx_IOIS, sx_IONS, sx_IAIO, sx_IAIS, sx_IANS, sx_ISIO, sx_ISIA, sx_ISNS, sx_NSIO, sx_NSIA, sx_NSIS, r_p447 S5, r_cM_gi S5, c439, r_c447_as S5, r_cM_gi G6.1, c440, r_cM_pi G6.1]
            rw [← hB, ← hK]
            obtain ⟨M', hM⟩ : ∃ M', M' = put (put M1 426 (M 412 10) c) 412 10 (M 412 10 + 1) := ⟨_, rfl⟩
            have e : ∀ o k, ¬ ((o = 412 ∧ k = 10) ∨ o = 419 ∨ ((o = 425 ∨ o = 426) ∧ k = M 412 10) ∨ (o = 427 ∧ 6 * M 412 10 ≤ k)) → M' o k = M o k := fun o k r => by
              rw [hM, put_n (by omega), put_n (by omega), eM1 o k (by omega), e0 o k (by omega)]
            have m9 : M' 412 10 = M 412 10 + 1 := by rw [hM]; exact put_e
            have m426 : M' 426 (M 412 10) = c := by rw [hM, put_n (by omega), put_e]
            have m427 : ∀ j, M' 427 j = M1 427 j := fun j => by rw [hM, put_n (by omega), put_n (by omega)]
            have m425 : M' 425 (M 412 10) = v.1 := by rw [hM, put_n (by omega), put_n (by omega), eM1 _ _ (by omega), ← hM0, put_e]
            have m5 : ∀ k, M' 419 k = if k = nmB 2 + nmN M 2 then adv tx n s else M 419 k := fun k => by
              show M' 419 k = if k = 18 + M 412 10 then adv tx n s else M 419 k
              rw [hM, put_n (by omega), put_n (by omega), eM1 _ _ (by omega), ← hM0, put_n (by omega)]
              by_cases r : k = 18 + M 412 10
              · rw [if_pos r, r, put_e]
              · rw [if_neg r, put_n (by omega)]
            have V7 : RV (fun o k => ((o = 446 ∨ o = 447) ∧ k = M 412 10) ∨ (o = 448 ∧ 6 * M 412 10 ≤ k) ∨ (o = 412 ∧ k = 42)) (nmB 2 + M 412 10) h (h_si (h_si h5 447 (M 412 10) (nI c)) 412 42 (nI (M 412 10 + 1))) := ((show RV _ _ h h5 from ⟨fun o k q1 q2 => V5'.1 o k q1 (fun r => q2 (by omega)), V5'.2⟩).trans (RV.si (Or.inl ⟨Or.inr rfl, rfl⟩))).trans (RV.si (Or.inr (Or.inr ⟨rfl, rfl⟩)))
            have i5 : ∀ o k, ¬ RSx o k → ¬ (o = 447 ∧ k = M 412 10) → ¬ (o = 412 ∧ k = 42) → h_iv (h_si (h_si h5 447 (M 412 10) (nI c)) 412 42 (nI (M 412 10 + 1))) o k = h_iv g o k := fun o k q1 q2 q3 => by rw [si_ne q3, si_ne q2, Z5.ri o k q1]
            have j42 : h_iv (h_si (h_si h5 447 (M 412 10) (nI c)) 412 42 (nI (M 412 10 + 1))) 412 42 = nI (M 412 10 + 1) := si_at
            have j447 : h_iv (h_si (h_si h5 447 (M 412 10) (nI c)) 412 42 (nI (M 412 10 + 1))) 447 (M 412 10) = nI c := by rw [si_ne (by omega), si_at]
            have l7 : h_lv (h_si (h_si h5 447 (M 412 10) (nI c)) 412 42 (nI (M 412 10 + 1))) 437 (nmB 2 + M 412 10) = lN (cd tx n (adv tx n s)) := (Z5.2.2.2.2.2.2 _ _ (by omega)).trans lg
            have G7 := G6.si (o := 412) (k := 42) (v := M 412 10 + 1) (by unfold RX; omega) (by omega) (by omega)
            generalize h_si (h_si h5 447 (M 412 10) (nI c)) 412 42 (nI (M 412 10 + 1)) = g7 at *
            refine yi_good (a := (M', s')) (by rw [hM]; rfl) G7 ?_
            show RM tx n M' _
            refine R.add V7 ⟨?_, ?_, ?_, by rw [j42, m9], ?_⟩ (fun o k f => ?_) (fun k => ⟨e _ _ (by omega), e _ _ (by omega), by omega, by omega⟩) (ny_add R.2.2.2 hD (sN := 2) (s1 := adv tx n s) (by omega) (show M 412 10 < 5 from hc) m9 (fun so q1 q2 => ?_) m5 nd l7 V7.2)
            · rw [V7.1 _ _ (by unfold RSx; omega) (by omega), e _ _ (by omega)]; exact R.1.1
            · rw [V7.1 _ _ (by unfold RSx; omega) (by omega), e _ _ (by omega)]; exact R.1.2.1
            · rw [V7.1 _ _ (by unfold RSx; omega) (by omega), e _ _ (by omega)]; exact R.1.2.2.1
            · rw [V7.1 _ _ (by unfold RSx; omega) (by omega), e _ _ (by omega)]; exact R.1.2.2.2.2
            · rcases fil_addE (e 412 8 (by omega)) (e 412 9 (by omega)) m9 (e 412 11 (by omega)) (fun g => e 424 g (by omega)) (fun g hg => e 426 g (by omega)) (fun g => e 431 g (by omega)) (fun g => e 433 g (by omega)) f with q | ⟨c1, ck⟩ | ⟨rfl, ck, kj⟩
              · left
                have l1 := (fil_lt q).2.2.2.1
                have l2 := (fil_lt q).2.2.2.2.1
                have f1 := fil_in q
                have nv := nu_v o
                exact ⟨q, e o k (by omega), by omega⟩
              · right
                subst ck
                rcases c1 with c1 | c1 <;> subst c1
                · rw [m425]; exact (i5 446 _ (by unfold RSx; omega) (by omega) (by omega)).trans b446
                · rw [m426]; exact j447
              · right
                rw [m426] at kj
                have ke : k = 6 * M 412 10 + k % 6 := by omega
                have bj := b448 (k % 6) kj
                rw [← ke] at bj
                rw [m427]
                exact (i5 448 k (by unfold RSx; omega) (by omega) (by omega)).trans bj
            · rcases (show so = 0 ∨ so = 1 ∨ so = 3 by omega) with r | r | r <;> subst r
              · exact e 412 8 (by omega)
              · exact e 412 9 (by omega)
              · exact e 412 11 (by omega)
          · rw [if_pos (fun q => t3 (te.mpr q))]; exact go h5 Z5 G5 (Or.inr t3)
      · simp (maxSteps := 3000000) (disch := first | assumption | omega) only [m_X12_engine_L35, bO_v, bR_v, bX_l, bX_r, bC_l, bC_r, aLet_v, nI_add, pk_mul, dvI_n, rmI_n, iMax_n, iMin_n, zO_0, zO_1, li_0, li_1, li_2, li_3, li_4, li_5, li_6, li_7, li_8, li_9, li_10, li_12, li_14, li_15, li_16, li_18, li_19, li_20, li_22, li_23, li_24, li_26, li_29, li_30, li_31, li_32, li_36, li_38, li_48, li_50, li_57, li_58, li_59, li_60, li_63, li_97, li_99, li_120, li_122, li_144, li_168, li_194, li_240, li_255, li_284, li_299, li_603, li_999, li_1200, li_1440, li_4095, li_4096, li_6030, li_16384, li_20160, zl0, zl1, zl2, zl3, zl4, ze01, ze02, ze03, ze04, ze10, ze12, ze13, ze14, ze20, ze21, ze23, ze24, ze30, ze31, ze32, ze34, ze40, ze41, ze42, ze43, zt0, zt1, zt2, zt3, zt4, zq0, zq1, zq2, zq3, zq4, it_t, it_f, Bool.true_eq_false, Bool.false_eq_true, na5, na4, na1441, na2, na10, sx_IOIA, sx_IOIS, sx_IONS, sx_IAIO, sx_IAIS, sx_IANS, sx_ISIO, sx_ISIA, sx_ISNS, sx_NSIO, sx_NSIA, sx_NSIS, r_cM_gi b.1, b.2.2.2.1, z1]
        have b6 := b.si (o := 447) (k := M 412 10) (v := j) (by unfold RX; omega) (by omega) (by omega)
        have c6 : h_iv (h_si g 447 (M 412 10) (nI j)) 412 42 = nI (M 412 10) := by rw [si_ne (by omega)]; exact c42
        rw [hk144]
        simp (maxSteps := 3000000) (disch := first | assumption | omega) only [bO_v, bR_v, bX_l, bX_r, bC_l, bC_r, aLet_v, nI_add, pk_mul, dvI_n, rmI_n, iMax_n, iMin_n, zO_0, zO_1, li_0, li_1, li_2, li_3, li_4, li_5, li_6, li_7, li_8, li_9, li_10, li_12, li_14, li_15, li_16, li_18, li_19, li_20, li_22, li_23, li_24, li_26, li_29, li_30, li_31, li_32, li_36, li_38, li_48, li_50, li_57, li_58, li_59, li_60, li_63, li_97, li_99, li_120, li_122, li_144, li_168, li_194, li_240, li_255, li_284, li_299, li_603, li_999, li_1200, li_1440, li_4095, li_4096, li_6030, li_16384, li_20160, zl0, zl1, zl2, zl3, zl4, ze01, ze02, ze03, ze04, ze10, ze12, ze13, ze14, ze20, ze21, ze23, ze24, ze30, ze31, ze32, ze34, ze40, ze41, ze42, ze43, zt0, zt1, zt2, zt3, zt4, zq0, zq1, zq2, zq3, zq4, it_t, it_f, Bool.true_eq_false, Bool.false_eq_true, na5, na4, na1441, na2, na10, sx_IOIA, sx_IOIS, sx_IONS, sx_IAIO, sx_IAIS, sx_IANS, sx_ISIO, sx_ISIA, sx_ISNS, sx_NSIO, sx_NSIA, sx_NSIS, r_p447 b.1, r_cM_gi b.1, c42, r_c447_as b.1, r_cM_gi b6.1, c6, r_cM_pi b6.1]
        rw [← hB, ← hK]
        refine yi_bad (b6.si (by unfold RX; omega) (by omega) (by omega)) ?_
        rcases hs with q | ⟨M1, c, s', q, q2, q3⟩
        · left; rw [q]; rfl
        · right; rw [q]; exact ⟨_, rfl, q2, q3⟩
end
