/-! the reference's reader: names of different things -/
section
variable {h h0 : aH} {tx : Nat → Nat} {n s : Nat} {M : Nat → Nat → Nat}
theorem y_k95 {k194 : Int32 → aH → Option (Unit × aH)} {e : ER} {x : Int32} (b : BE n h0 h e) : aL1 (m_X12_kind_L95 412 k194) FU x h = k194 x h := by
  have z1 : (nI 1 = nI 0) = False := eq_false (by decide)
  refine aL1_run (R := fun o => o = k194 x h) (fun m s1 g => m = 0 ∧ g = h ∧ s1 = x) ⟨rfl, rfl, rfl⟩ (by omega) ?_
  rintro rec m s1 g ⟨rfl, rfl, rfl⟩ ih
  simp (maxSteps := 3000000) (disch := first | assumption | omega) only [m_X12_kind_L95, bO_v, bR_v, bX_l, bX_r, bC_l, bC_r, aJ_v, aLet_v, nI_add, pk_mul, dvI_n, rmI_n, iMax_n, iMin_n, zO_0, zO_1, li_0, li_1, li_2, li_3, li_4, li_5, li_6, li_7, li_8, li_9, li_10, li_12, li_14, li_15, li_16, li_18, li_19, li_20, li_22, li_23, li_24, li_26, li_29, li_30, li_31, li_32, li_36, li_38, li_48, li_50, li_57, li_58, li_59, li_60, li_63, li_97, li_99, li_120, li_122, li_144, li_168, li_194, li_240, li_255, li_284, li_299, li_603, li_999, li_1200, li_1440, li_4095, li_4096, li_6030, li_16384, li_20160, zl0, zl1, zl2, zl3, zl4, ze01, ze02, ze03, ze04, ze10, ze12, ze13, ze14, ze20, ze21, ze23, ze24, ze30, ze31, ze32, ze34, ze40, ze41, ze42, ze43, zt0, zt1, zt2, zt3, zt4, zq0, zq1, zq2, zq3, zq4, it_t, it_f, Bool.true_eq_false, Bool.false_eq_true, na5, na4, na1441, na2, na10, sx_IOIA, sx_IOIS, sx_IONS, sx_IAIO, sx_IAIS, sx_IANS, sx_ISIO, sx_ISIA, sx_ISNS, sx_NSIO, sx_NSIA, sx_NSIS, r_cM_gi b.1, b.2.2.2.1, z1]
theorem y_dk95 (X : TR tx n h0) {s3 : Nat} {g5 : aH} {M0 : Nat → Nat → Nat} (G5 : GS tx n h0 g5 s3) (N5 : NY tx n M 1 (M 412 9) g5) (c41 : h_iv g5 412 41 = nI (M 412 9)) (c43 : h_iv g5 412 43 = nI (M 412 11)) (d1 : M 412 9 ≤ 6) (h6 : M 412 11 < 6) {k194 : Int32 → aH → Option (Unit × aH)} (R' : Option (Unit × aH) → Prop)
    (kG : ∀ g c s' M1, sDiff tx n M 1 (M 412 9) 432 (6 * M 412 11) (n + 2) M0 0 s3 = .inr (M1, c, s') → c ≤ M 412 9 → GS tx n h0 g s' → (∀ w, RV (fun o k => o = 453 ∧ 6 * M 412 11 ≤ k) w g5 g) → (∀ j, j < c → h_iv g 453 (6 * M 412 11 + j) = nI (M1 432 (6 * M 412 11 + j))) → R' (k194 (nI c) g))
    (kB : ∀ g e j, j ≤ 6 → BE n h0 g e → h_iv g 412 43 = nI (M 412 11) → (sDiff tx n M 1 (M 412 9) 432 (6 * M 412 11) (n + 2) M0 0 s3 = .inl e ∨ ∃ M1 c s', sDiff tx n M 1 (M 412 9) 432 (6 * M 412 11) (n + 2) M0 0 s3 = .inr (M1, c, s') ∧ e = (1, s') ∧ tok tx n s' ≠ 4) → R' (k194 (nI j) g)) :
    R' (aL1 (m_X12_kind_L95 412 k194) FU (nI 0) g5) := by
  have z : (nI 0 = nI 0) = True := eq_self _
  have z1 : (nI 1 = nI 0) = False := eq_false (by decide)
  have x1 := X.1
  refine aL1_run (R := R') (fun m s1 g => (∃ f c s' M1, m = f + 1 ∧ s1 = nI c ∧ n + 1 < s' + f ∧ sDiff tx n M 1 (M 412 9) 432 (6 * M 412 11) (n + 2) M0 0 s3 = sDiff tx n M 1 (M 412 9) 432 (6 * M 412 11) f M1 c s' ∧ GS tx n h0 g s' ∧ (∀ w, RV (fun o k => o = 453 ∧ 6 * M 412 11 ≤ k) w g5 g) ∧ (∀ j, j < c → h_iv g 453 (6 * M 412 11 + j) = nI (M1 432 (6 * M 412 11 + j))) ∧ (∀ j, j < c → M1 432 (6 * M 412 11 + j) < M 412 9) ∧ ∀ i j, i < j → j < c → M1 432 (6 * M 412 11 + i) ≠ M1 432 (6 * M 412 11 + j)) ∨ (m = 0 ∧ ∃ e j, s1 = nI j ∧ j ≤ 6 ∧ BE n h0 g e ∧ h_iv g 412 43 = nI (M 412 11) ∧ (sDiff tx n M 1 (M 412 9) 432 (6 * M 412 11) (n + 2) M0 0 s3 = .inl e ∨ ∃ M1 c s', sDiff tx n M 1 (M 412 9) 432 (6 * M 412 11) (n + 2) M0 0 s3 = .inr (M1, c, s') ∧ e = (1, s') ∧ tok tx n s' ≠ 4))) (Or.inl ⟨n + 2, 0, s3, M0, rfl, rfl, by omega, rfl, G5, fun _ => RV.rf, fun j r => absurd r (Nat.not_lt_zero j), fun j r => absurd r (Nat.not_lt_zero j), fun i j _ r => absurd r (Nat.not_lt_zero j)⟩) (by omega) ?_
  rintro rec m s1 g (⟨f, c, s', M1, rfl, rfl, hf, es, Gg, Vg, bA, a2, a3⟩ | ⟨rfl, e, j, rfl, hj, b, c43b, hs⟩) ih
  · have Sg := Gg.1
    have sl := Gg.le
    have cn : c ≤ M 412 9 := pig (f := fun j => M1 432 (6 * M 412 11 + j)) a2 a3
    obtain ⟨pp, pp1, pp2, pp3⟩ := Gg.2.2.2.2.1
    obtain ⟨r5, h5, e5, rfl, F5, a5⟩ := y_isNext Sg (X.ry Gg.2.1) pp2 pp1 pp3 (c := 58) (by omega)
    have Z5 : RZ g h5 := RZ.fx F5 (fun o k r => by unfold RSx; omega)
    have G5' : GS tx n h0 h5 s' := Gg.rz Z5 ⟨F5.iv (by omega), F5.iv (by omega), F5.iv (by omega)⟩ ⟨s', sl.1, a5, sl.2⟩
    have te := tokS (tx := tx) (n := n) (s := s') (Or.inr ⟨rfl, rfl⟩)
    obtain ⟨f, rfl⟩ : ∃ f', f = f' + 1 := ⟨f - 1, by omega⟩
    simp (maxSteps := 3000000) (disch := first | assumption | omega) only [m_X12_kind_L95, bO_v, bR_v, bX_l, bX_r, bC_l, bC_r, aLet_v, nI_add, pk_mul, dvI_n, rmI_n, iMax_n, iMin_n, zO_0, zO_1, li_0, li_1, li_2, li_3, li_4, li_5, li_6, li_7, li_8, li_9, li_10, li_12, li_14, li_15, li_16, li_18, li_19, li_20, li_22, li_23, li_24, li_26, li_29, li_30, li_31, li_32, li_36, li_38, li_48, li_50, li_57, li_58, li_59, li_60, li_63, li_97, li_99, li_120, li_122, li_144, li_168, li_194, li_240, li_255, li_284, li_299, li_603, li_999, li_1200, li_1440, li_4095, li_4096, li_6030, li_16384, li_20160, zl0, zl1, zl2, zl3, zl4, ze01, ze02, ze03, ze04, ze10, ze12, ze13, ze14, ze20, ze21, ze23, ze24, ze30, ze31, ze32, ze34, ze40, ze41, ze42, ze43, zt0, zt1, zt2, zt3, zt4, zq0, zq1, zq2, zq3, zq4, it_t, it_f, Bool.true_eq_false, Bool.false_eq_true, na5, na4, na1441, na2, na10, sx_IOIA, sx_IOIS, sx_IONS, sx_IAIO, sx_IAIS, sx_IANS, sx_ISIO, sx_ISIA, sx_ISNS, sx_NSIO, sx_NSIA, sx_NSIS, r_cM_gi Sg, Gg.2.2.2.1, z, r_cM_gS Sg, e5, b2i_0, decide_eq_false_iff_not, nI_eq, eq_self]
    refine aJ_gen (R := R') (fun k115 hk115 => ?_)
    have go : ∀ g6, RZ g g6 → GS tx n h0 g6 s' → (c = 0 ∨ tok tx n s' ≠ 4) → R' (k115 g6) := fun g6 Z6 G6 ht => by
      have S6 := G6.1
      have V6 := fun w => (Vg w).trans (RZ.rv Z6)
      have c6 : h_iv g6 412 41 = nI (M 412 9) := ((V6 0).1 _ _ (by unfold RSx; omega) (by omega)).trans c41
      have c450 : h_iv g6 412 43 = nI (M 412 11) := ((V6 0).1 _ _ (by unfold RSx; omega) (by omega)).trans c43
      have N6 : NY tx n M 1 (M 412 9) g6 := fun i hi => by
        have := N5 i hi
        exact ⟨this.1, by rw [(V6 29).2 _ (show nmB 1 + i ≠ 29 from by show 12 + i ≠ 29; omega)]; exact this.2⟩
      obtain ⟨r, h9, e9, hh⟩ := y_named X G6 (so := 1) (cnt := M 412 9) N6 (show 12 + M 412 9 ≤ 29 by omega)
      change m_X12_named 412 (nI 12) (nI (M 412 9)) g6 = _ at e9
      rw [hk115]
      simp (maxSteps := 3000000) (disch := first | assumption | omega) only [bO_v, bR_v, bX_l, bX_r, bC_l, bC_r, aLet_v, nI_add, pk_mul, dvI_n, rmI_n, iMax_n, iMin_n, zO_0, zO_1, li_0, li_1, li_2, li_3, li_4, li_5, li_6, li_7, li_8, li_9, li_10, li_12, li_14, li_15, li_16, li_18, li_19, li_20, li_22, li_23, li_24, li_26, li_29, li_30, li_31, li_32, li_36, li_38, li_48, li_50, li_57, li_58, li_59, li_60, li_63, li_97, li_99, li_120, li_122, li_144, li_168, li_194, li_240, li_255, li_284, li_299, li_603, li_999, li_1200, li_1440, li_4095, li_4096, li_6030, li_16384, li_20160, zl0, zl1, zl2, zl3, zl4, ze01, ze02, ze03, ze04, ze10, ze12, ze13, ze14, ze20, ze21, ze23, ze24, ze30, ze31, ze32, ze34, ze40, ze41, ze42, ze43, zt0, zt1, zt2, zt3, zt4, zq0, zq1, zq2, zq3, zq4, it_t, it_f, Bool.true_eq_false, Bool.false_eq_true, na5, na4, na1441, na2, na10, sx_IOIA, sx_IOIS, sx_IONS, sx_IAIO, sx_IAIS, sx_IANS, sx_ISIO, sx_ISIA, sx_ISNS, sx_NSIO, sx_NSIA, sx_NSIS, r_cM_gi S6, c6, r_cM_gS S6, e9]
      refine aJ_gen (R := R') (fun k166 hk166 => ?_)
      have bad : ∀ e g7, BE n h0 g7 e → h_iv g7 412 43 = nI (M 412 11) → (sDiff tx n M 1 (M 412 9) 432 (6 * M 412 11) (n + 2) M0 0 s3 = .inl e ∨ ∃ M1 c s', sDiff tx n M 1 (M 412 9) 432 (6 * M 412 11) (n + 2) M0 0 s3 = .inr (M1, c, s') ∧ e = (1, s') ∧ tok tx n s' ≠ 4) → R' (k166 g7) := fun e g7 b7 c7 hs => by
        rw [hk166]
        simp (maxSteps := 3000000) (disch := first | assumption | omega) only [bO_v, bR_v, bX_l, bX_r, bC_l, bC_r, aJ_v, aLet_v, nI_add, pk_mul, dvI_n, rmI_n, iMax_n, iMin_n, zO_0, zO_1, li_0, li_1, li_2, li_3, li_4, li_5, li_6, li_7, li_8, li_9, li_10, li_12, li_14, li_15, li_16, li_18, li_19, li_20, li_22, li_23, li_24, li_26, li_29, li_30, li_31, li_32, li_36, li_38, li_48, li_50, li_57, li_58, li_59, li_60, li_63, li_97, li_99, li_120, li_122, li_144, li_168, li_194, li_240, li_255, li_284, li_299, li_603, li_999, li_1200, li_1440, li_4095, li_4096, li_6030, li_16384, li_20160, zl0, zl1, zl2, zl3, zl4, ze01, ze02, ze03, ze04, ze10, ze12, ze13, ze14, ze20, ze21, ze23, ze24, ze30, ze31, ze32, ze34, ze40, ze41, ze42, ze43, zt0, zt1, zt2, zt3, zt4, zq0, zq1, zq2, zq3, zq4, it_t, it_f, Bool.true_eq_false, Bool.false_eq_true, na5, na4, na1441, na2, na10, sx_IOIA, sx_IOIS, sx_IONS, sx_IAIO, sx_IAIS, sx_IANS, sx_ISIO, sx_ISIA, sx_ISNS, sx_NSIO, sx_NSIA, sx_NSIS, r_cM_gi b7.1, b7.2.2.2.1, z1]
        exact ih 0 _ _ (by omega) (Or.inr ⟨rfl, e, c, rfl, by omega, b7, c7, hs⟩)
      cases ea : sOf tx n M 1 (M 412 9) s' with
      | inl e =>
        rw [ea] at hh
        obtain ⟨b9, r9, rfl⟩ := hh
        have c9 : h_iv h9 412 43 = nI (M 412 11) := (r9 _ _ (by unfold RSx; omega)).trans c450
        have hs : sDiff tx n M 1 (M 412 9) 432 (6 * M 412 11) (n + 2) M0 0 s3 = .inl e ∨ ∃ M1 c s', sDiff tx n M 1 (M 412 9) 432 (6 * M 412 11) (n + 2) M0 0 s3 = .inr (M1, c, s') ∧ e = (1, s') ∧ tok tx n s' ≠ 4 := by
          by_cases ct : c ≠ 0 ∧ tok tx n s' ≠ 1
          · right
            exact ⟨M1, c, s', by rw [es, sDiff, if_pos ct], sOf_bad ea ct.2, by omega⟩
          · left
            rw [es, sDiff, if_neg ct, ea]; rfl
        refine aL1_run (R := R') (fun m s1 g7 => g7 = h9 ∧ ∃ i, i ≤ c ∧ m = c - i ∧ s1 = nI i) ⟨rfl, 0, Nat.zero_le _, rfl, rfl⟩ (by omega) ?_
        rintro rec2 m s1 g7 ⟨rfl, i, hi, rfl, rfl⟩ ih2
        by_cases hlt : i < c
        · simp (maxSteps := 3000000) (disch := first | assumption | omega) only [m_X12_kind_L128, bO_v, bR_v, bX_l, bX_r, bC_l, bC_r, aJ_v, aLet_v, nI_add, pk_mul, dvI_n, rmI_n, iMax_n, iMin_n, zO_0, zO_1, li_0, li_1, li_2, li_3, li_4, li_5, li_6, li_7, li_8, li_9, li_10, li_12, li_14, li_15, li_16, li_18, li_19, li_20, li_22, li_23, li_24, li_26, li_29, li_30, li_31, li_32, li_36, li_38, li_48, li_50, li_57, li_58, li_59, li_60, li_63, li_97, li_99, li_120, li_122, li_144, li_168, li_194, li_240, li_255, li_284, li_299, li_603, li_999, li_1200, li_1440, li_4095, li_4096, li_6030, li_16384, li_20160, zl0, zl1, zl2, zl3, zl4, ze01, ze02, ze03, ze04, ze10, ze12, ze13, ze14, ze20, ze21, ze23, ze24, ze30, ze31, ze32, ze34, ze40, ze41, ze42, ze43, zt0, zt1, zt2, zt3, zt4, zq0, zq1, zq2, zq3, zq4, it_t, it_f, Bool.true_eq_false, Bool.false_eq_true, na5, na4, na1441, na2, na10, sx_IOIA, sx_IOIS, sx_IONS, sx_IAIO, sx_IAIS, sx_IANS, sx_ISIO, sx_ISIA, sx_ISNS, sx_NSIO, sx_NSIA, sx_NSIS, nI_ltI, r_cM_gi b9.1, c9, r_p453 b9.1, r_c453_al b9.1, r_cM_gS b9.1, y_faultB b9]
          rw [if_pos hlt, ite_self]
          exact ih2 _ _ _ (by omega) ⟨rfl, i + 1, hlt, rfl, rfl⟩
        · simp (maxSteps := 3000000) (disch := first | assumption | omega) only [m_X12_kind_L128, bO_v, bR_v, bX_l, bX_r, bC_l, bC_r, aJ_v, aLet_v, nI_add, pk_mul, dvI_n, rmI_n, iMax_n, iMin_n, zO_0, zO_1, li_0, li_1, li_2, li_3, li_4, li_5, li_6, li_7, li_8, li_9, li_10, li_12, li_14, li_15, li_16, li_18, li_19, li_20, li_22, li_23, li_24, li_26, li_29, li_30, li_31, li_32, li_36, li_38, li_48, li_50, li_57, li_58, li_59, li_60, li_63, li_97, li_99, li_120, li_122, li_144, li_168, li_194, li_240, li_255, li_284, li_299, li_603, li_999, li_1200, li_1440, li_4095, li_4096, li_6030, li_16384, li_20160, zl0, zl1, zl2, zl3, zl4, ze01, ze02, ze03, ze04, ze10, ze12, ze13, ze14, ze20, ze21, ze23, ze24, ze30, ze31, ze32, ze34, ze40, ze41, ze42, ze43, zt0, zt1, zt2, zt3, zt4, zq0, zq1, zq2, zq3, zq4, it_t, it_f, Bool.true_eq_false, Bool.false_eq_true, na5, na4, na1441, na2, na10, sx_IOIA, sx_IOIS, sx_IONS, sx_IAIO, sx_IAIS, sx_IANS, sx_ISIO, sx_ISIA, sx_ISNS, sx_NSIO, sx_NSIA, sx_NSIS, nI_ltI]
          rw [if_neg hlt]
          exact bad e g7 b9 c9 hs
      | inr a =>
        rw [ea] at hh
        obtain ⟨G9, Z9, rfl, a37, ha⟩ := hh
        have S9 := G9.1
        obtain ⟨nw, -, -⟩ := sOf_inr ea
        have t1 : tok tx n s' = 1 := (of_decide_eq_true nw).1
        have ad := adv_gt (tx := tx) (nmd_in nw)
        have ct : ¬ (c ≠ 0 ∧ tok tx n s' ≠ 1) := fun q => q.2 t1
        obtain ⟨-, -, adv2⟩ := sOf_inr ea
        have c9 : h_iv h9 412 43 = nI (M 412 11) := (Z9.ri _ _ (by unfold RSx; omega)).trans c450
        have b9A : ∀ j, j < c → h_iv h9 453 (6 * M 412 11 + j) = nI (M1 432 (6 * M 412 11 + j)) := fun j hj => by rw [Z9.ri _ _ (by unfold RSx; omega), Z6.ri _ _ (by unfold RSx; omega)]; exact bA j hj
        have sp : sDiff tx n M 1 (M 412 9) 432 (6 * M 412 11) (n + 2) M0 0 s3 = if fa_first (fun j => decide (M1 432 (6 * M 412 11 + j) = a.1)) c < c then .inl (3, s') else sDiff tx n M 1 (M 412 9) 432 (6 * M 412 11) f (put M1 432 (6 * M 412 11 + c) a.1) (c + 1) a.2 := by
          rw [es, sDiff, if_neg ct, ea]; rfl
        refine aL1_run (R := R') (fun m s1 g7 => ∃ i, i ≤ c ∧ m = c - i ∧ s1 = nI i ∧ ((g7 = h9 ∧ ∀ j, j < i → M1 432 (6 * M 412 11 + j) ≠ a.1) ∨ (BE n h0 g7 (3, s') ∧ h_iv g7 412 43 = nI (M 412 11) ∧ fa_first (fun j => decide (M1 432 (6 * M 412 11 + j) = a.1)) c < c))) ⟨0, Nat.zero_le _, rfl, rfl, Or.inl ⟨rfl, fun j r => absurd r (Nat.not_lt_zero j)⟩⟩ (by omega) ?_
        rintro rec2 m s1 g7 ⟨i, hi, rfl, rfl, ⟨rfl, no⟩ | ⟨b7, c7, fl⟩⟩ ih2
        · by_cases hlt : i < c
          · have l1 := a2 i hlt
            simp (maxSteps := 3000000) (disch := first | assumption | omega) only [m_X12_kind_L128, bO_v, bR_v, bX_l, bX_r, bC_l, bC_r, aJ_v, aLet_v, nI_add, pk_mul, dvI_n, rmI_n, iMax_n, iMin_n, zO_0, zO_1, li_0, li_1, li_2, li_3, li_4, li_5, li_6, li_7, li_8, li_9, li_10, li_12, li_14, li_15, li_16, li_18, li_19, li_20, li_22, li_23, li_24, li_26, li_29, li_30, li_31, li_32, li_36, li_38, li_48, li_50, li_57, li_58, li_59, li_60, li_63, li_97, li_99, li_120, li_122, li_144, li_168, li_194, li_240, li_255, li_284, li_299, li_603, li_999, li_1200, li_1440, li_4095, li_4096, li_6030, li_16384, li_20160, zl0, zl1, zl2, zl3, zl4, ze01, ze02, ze03, ze04, ze10, ze12, ze13, ze14, ze20, ze21, ze23, ze24, ze30, ze31, ze32, ze34, ze40, ze41, ze42, ze43, zt0, zt1, zt2, zt3, zt4, zq0, zq1, zq2, zq3, zq4, it_t, it_f, Bool.true_eq_false, Bool.false_eq_true, na5, na4, na1441, na2, na10, sx_IOIA, sx_IOIS, sx_IONS, sx_IAIO, sx_IAIS, sx_IANS, sx_ISIO, sx_ISIA, sx_ISNS, sx_NSIO, sx_NSIA, sx_NSIS, nI_ltI, r_cM_gi S9, c9, r_p453 S9, r_c453_al S9, b9A i hlt, nI_eq, eq_self, a37, r_cM_gS S9]
            rw [if_pos hlt]
            by_cases ce : M1 432 (6 * M 412 11 + i) = a.1
            · rw [if_pos ce]
              obtain ⟨q', q1, q2, q3⟩ := G9.2.2.2.2.1
              obtain ⟨h10, e10, b10, F10⟩ := y_fault (n := n) S9 G9.2.1 G9.2.2.1 G9.2.2.2.1 q1 q2 (c := 3) (w := s')
              rw [e10, bR_v]
              exact ih2 _ _ _ (by omega) ⟨i + 1, hlt, rfl, rfl, Or.inr ⟨b10, (F10.iv (by unfold RSx; omega)).trans c9, fst_lt hlt (decide_eq_true ce)⟩⟩
            · rw [if_neg ce]
              refine ih2 _ _ _ (by omega) ⟨i + 1, hlt, rfl, rfl, Or.inl ⟨rfl, fun j hj => ?_⟩⟩
              by_cases cj : j = i
              · rw [cj]; exact ce
              · exact no j (by omega)
          · obtain rfl : i = c := by omega
            have c1 : i + 1 ≤ M 412 9 := pig (f := fun j => if j < i then M1 432 (6 * M 412 11 + j) else a.1) (fun j hj => by
              show (if j < i then M1 432 (6 * M 412 11 + j) else a.1) < _
              split
              · exact a2 j ‹_›
              · exact ha) (fun u j huj hj => by
              show (if u < i then M1 432 (6 * M 412 11 + u) else a.1) ≠ (if j < i then M1 432 (6 * M 412 11 + j) else a.1)
              rw [if_pos (by omega)]
              split
              · exact a3 u j huj ‹_›
              · exact no u (by omega))
            simp (maxSteps := 3000000) (disch := first | assumption | omega) only [m_X12_kind_L128, bO_v, bR_v, bX_l, bX_r, bC_l, bC_r, aJ_v, aLet_v, nI_add, pk_mul, dvI_n, rmI_n, iMax_n, iMin_n, zO_0, zO_1, li_0, li_1, li_2, li_3, li_4, li_5, li_6, li_7, li_8, li_9, li_10, li_12, li_14, li_15, li_16, li_18, li_19, li_20, li_22, li_23, li_24, li_26, li_29, li_30, li_31, li_32, li_36, li_38, li_48, li_50, li_57, li_58, li_59, li_60, li_63, li_97, li_99, li_120, li_122, li_144, li_168, li_194, li_240, li_255, li_284, li_299, li_603, li_999, li_1200, li_1440, li_4095, li_4096, li_6030, li_16384, li_20160, zl0, zl1, zl2, zl3, zl4, ze01, ze02, ze03, ze04, ze10, ze12, ze13, ze14, ze20, ze21, ze23, ze24, ze30, ze31, ze32, ze34, ze40, ze41, ze42, ze43, zt0, zt1, zt2, zt3, zt4, zq0, zq1, zq2, zq3, zq4, it_t, it_f, Bool.true_eq_false, Bool.false_eq_true, na5, na4, na1441, na2, na10, sx_IOIA, sx_IOIS, sx_IONS, sx_IAIO, sx_IAIS, sx_IANS, sx_ISIO, sx_ISIA, sx_ISNS, sx_NSIO, sx_NSIA, sx_NSIS, nI_ltI]
            rw [if_neg hlt, hk166]
            have G10 := G9.si (o := 453) (k := 6 * M 412 11 + i) (v := a.1) (by unfold RX; omega) (by omega) (by omega)
            simp (maxSteps := 3000000) (disch := first | assumption | omega) only [bO_v, bR_v, bX_l, bX_r, bC_l, bC_r, aJ_v, aLet_v, nI_add, pk_mul, dvI_n, rmI_n, iMax_n, iMin_n, zO_0, zO_1, li_0, li_1, li_2, li_3, li_4, li_5, li_6, li_7, li_8, li_9, li_10, li_12, li_14, li_15, li_16, li_18, li_19, li_20, li_22, li_23, li_24, li_26, li_29, li_30, li_31, li_32, li_36, li_38, li_48, li_50, li_57, li_58, li_59, li_60, li_63, li_97, li_99, li_120, li_122, li_144, li_168, li_194, li_240, li_255, li_284, li_299, li_603, li_999, li_1200, li_1440, li_4095, li_4096, li_6030, li_16384, li_20160, zl0, zl1, zl2, zl3, zl4, ze01, ze02, ze03, ze04, ze10, ze12, ze13, ze14, ze20, ze21, ze23, ze24, ze30, ze31, ze32, ze34, ze40, ze41, ze42, ze43, zt0, zt1, zt2, zt3, zt4, zq0, zq1, zq2, zq3, zq4, it_t, it_f, Bool.true_eq_false, Bool.false_eq_true, na5, na4, na1441, na2, na10, sx_IOIA, sx_IOIS, sx_IONS, sx_IAIO, sx_IAIS, sx_IANS, sx_ISIO, sx_ISIA, sx_ISNS, sx_NSIO, sx_NSIA, sx_NSIS, r_cM_gi S9, G9.2.2.2.1, z, r_p453 S9, c9, r_c453_as S9]
            rw [if_neg (fst_nlt (fun j hj => decide_eq_false (no j hj)))] at sp
            refine ih (f + 1) _ _ (by omega) (Or.inl ⟨f, i + 1, a.2, _, rfl, rfl, by omega, sp, G10, fun w => ((V6 w).trans Z9.rv).trans (RV.si ⟨rfl, by omega⟩), fun j hj => ?_, fun j hj => ?_, fun u j huj hj => ?_⟩)
            · by_cases cj : j = i
              · rw [cj, si_at, put_e]
              · rw [si_ne (by omega), put_n (by omega)]; exact b9A j (by omega)
            · by_cases cj : j = i
              · rw [cj, put_e]; exact ha
              · rw [put_n (by omega)]; exact a2 j (by omega)
            · by_cases cj : j = i
              · rw [cj, put_e, put_n (by omega)]; exact no u (by omega)
              · rw [put_n (by omega), put_n (by omega)]; exact a3 u j huj (by omega)
        · by_cases hlt : i < c
          · simp (maxSteps := 3000000) (disch := first | assumption | omega) only [m_X12_kind_L128, bO_v, bR_v, bX_l, bX_r, bC_l, bC_r, aJ_v, aLet_v, nI_add, pk_mul, dvI_n, rmI_n, iMax_n, iMin_n, zO_0, zO_1, li_0, li_1, li_2, li_3, li_4, li_5, li_6, li_7, li_8, li_9, li_10, li_12, li_14, li_15, li_16, li_18, li_19, li_20, li_22, li_23, li_24, li_26, li_29, li_30, li_31, li_32, li_36, li_38, li_48, li_50, li_57, li_58, li_59, li_60, li_63, li_97, li_99, li_120, li_122, li_144, li_168, li_194, li_240, li_255, li_284, li_299, li_603, li_999, li_1200, li_1440, li_4095, li_4096, li_6030, li_16384, li_20160, zl0, zl1, zl2, zl3, zl4, ze01, ze02, ze03, ze04, ze10, ze12, ze13, ze14, ze20, ze21, ze23, ze24, ze30, ze31, ze32, ze34, ze40, ze41, ze42, ze43, zt0, zt1, zt2, zt3, zt4, zq0, zq1, zq2, zq3, zq4, it_t, it_f, Bool.true_eq_false, Bool.false_eq_true, na5, na4, na1441, na2, na10, sx_IOIA, sx_IOIS, sx_IONS, sx_IAIO, sx_IAIS, sx_IANS, sx_ISIO, sx_ISIA, sx_ISNS, sx_NSIO, sx_NSIA, sx_NSIS, nI_ltI, r_cM_gi b7.1, c7, r_p453 b7.1, r_c453_al b7.1, r_cM_gS b7.1, y_faultB b7]
            rw [if_pos hlt, ite_self]
            exact ih2 _ _ _ (by omega) ⟨i + 1, hlt, rfl, rfl, Or.inr ⟨b7, c7, fl⟩⟩
          · simp (maxSteps := 3000000) (disch := first | assumption | omega) only [m_X12_kind_L128, bO_v, bR_v, bX_l, bX_r, bC_l, bC_r, aJ_v, aLet_v, nI_add, pk_mul, dvI_n, rmI_n, iMax_n, iMin_n, zO_0, zO_1, li_0, li_1, li_2, li_3, li_4, li_5, li_6, li_7, li_8, li_9, li_10, li_12, li_14, li_15, li_16, li_18, li_19, li_20, li_22, li_23, li_24, li_26, li_29, li_30, li_31, li_32, li_36, li_38, li_48, li_50, li_57, li_58, li_59, li_60, li_63, li_97, li_99, li_120, li_122, li_144, li_168, li_194, li_240, li_255, li_284, li_299, li_603, li_999, li_1200, li_1440, li_4095, li_4096, li_6030, li_16384, li_20160, zl0, zl1, zl2, zl3, zl4, ze01, ze02, ze03, ze04, ze10, ze12, ze13, ze14, ze20, ze21, ze23, ze24, ze30, ze31, ze32, ze34, ze40, ze41, ze42, ze43, zt0, zt1, zt2, zt3, zt4, zq0, zq1, zq2, zq3, zq4, it_t, it_f, Bool.true_eq_false, Bool.false_eq_true, na5, na4, na1441, na2, na10, sx_IOIA, sx_IOIS, sx_IONS, sx_IAIO, sx_IAIS, sx_IANS, sx_ISIO, sx_ISIA, sx_ISNS, sx_NSIO, sx_NSIA, sx_NSIS, nI_ltI]
            rw [if_neg hlt]
            exact bad (3, s') g7 b7 c7 (Or.inl (by rw [sp, if_pos fl]))
    by_cases c0 : c = 0
    · rw [if_pos c0]; exact go g RZ.rf Gg (Or.inl c0)
    · rw [if_neg c0]
      by_cases t3 : tok tx n s' = 4
      · rw [if_neg (fun q => q (te.mp t3))]
        exact kG h5 c s' M1 (by rw [es, sDiff, if_pos ⟨c0, by omega⟩]) cn G5' (fun w => (Vg w).trans Z5.rv) (fun j hj => by rw [Z5.ri _ _ (by unfold RSx; omega)]; exact bA j hj)
      · rw [if_pos (fun q => t3 (te.mpr q))]; exact go h5 Z5 G5' (Or.inr t3)
  · simp (maxSteps := 3000000) (disch := first | assumption | omega) only [m_X12_kind_L95, bO_v, bR_v, bX_l, bX_r, bC_l, bC_r, aLet_v, nI_add, pk_mul, dvI_n, rmI_n, iMax_n, iMin_n, zO_0, zO_1, li_0, li_1, li_2, li_3, li_4, li_5, li_6, li_7, li_8, li_9, li_10, li_12, li_14, li_15, li_16, li_18, li_19, li_20, li_22, li_23, li_24, li_26, li_29, li_30, li_31, li_32, li_36, li_38, li_48, li_50, li_57, li_58, li_59, li_60, li_63, li_97, li_99, li_120, li_122, li_144, li_168, li_194, li_240, li_255, li_284, li_299, li_603, li_999, li_1200, li_1440, li_4095, li_4096, li_6030, li_16384, li_20160, zl0, zl1, zl2, zl3, zl4, ze01, ze02, ze03, ze04, ze10, ze12, ze13, ze14, ze20, ze21, ze23, ze24, ze30, ze31, ze32, ze34, ze40, ze41, ze42, ze43, zt0, zt1, zt2, zt3, zt4, zq0, zq1, zq2, zq3, zq4, it_t, it_f, Bool.true_eq_false, Bool.false_eq_true, na5, na4, na1441, na2, na10, sx_IOIA, sx_IOIS, sx_IONS, sx_IAIO, sx_IAIS, sx_IANS, sx_ISIO, sx_ISIA, sx_ISNS, sx_NSIO, sx_NSIA, sx_NSIS, r_cM_gi b.1, b.2.2.2.1, z1]
    exact kB g e j hj b c43b hs
theorem y_k219 {k316 : Int32 → aH → Option (Unit × aH)} {e : ER} {x : Int32} (b : BE n h0 h e) : aL1 (m_X12_kind_L219 412 k316) FU x h = k316 x h := by
  have z1 : (nI 1 = nI 0) = False := eq_false (by decide)
  refine aL1_run (R := fun o => o = k316 x h) (fun m s1 g => m = 0 ∧ g = h ∧ s1 = x) ⟨rfl, rfl, rfl⟩ (by omega) ?_
  rintro rec m s1 g ⟨rfl, rfl, rfl⟩ ih
  simp (maxSteps := 3000000) (disch := first | assumption | omega) only [m_X12_kind_L219, bO_v, bR_v, bX_l, bX_r, bC_l, bC_r, aJ_v, aLet_v, nI_add, pk_mul, dvI_n, rmI_n, iMax_n, iMin_n, zO_0, zO_1, li_0, li_1, li_2, li_3, li_4, li_5, li_6, li_7, li_8, li_9, li_10, li_12, li_14, li_15, li_16, li_18, li_19, li_20, li_22, li_23, li_24, li_26, li_29, li_30, li_31, li_32, li_36, li_38, li_48, li_50, li_57, li_58, li_59, li_60, li_63, li_97, li_99, li_120, li_122, li_144, li_168, li_194, li_240, li_255, li_284, li_299, li_603, li_999, li_1200, li_1440, li_4095, li_4096, li_6030, li_16384, li_20160, zl0, zl1, zl2, zl3, zl4, ze01, ze02, ze03, ze04, ze10, ze12, ze13, ze14, ze20, ze21, ze23, ze24, ze30, ze31, ze32, ze34, ze40, ze41, ze42, ze43, zt0, zt1, zt2, zt3, zt4, zq0, zq1, zq2, zq3, zq4, it_t, it_f, Bool.true_eq_false, Bool.false_eq_true, na5, na4, na1441, na2, na10, sx_IOIA, sx_IOIS, sx_IONS, sx_IAIO, sx_IAIS, sx_IANS, sx_ISIO, sx_ISIA, sx_ISNS, sx_NSIO, sx_NSIA, sx_NSIS, r_cM_gi b.1, b.2.2.2.1, z1]
theorem y_dk219 (X : TR tx n h0) {s3 : Nat} {g5 : aH} {M0 : Nat → Nat → Nat} (G5 : GS tx n h0 g5 s3) (N5 : NY tx n M 2 (M 412 10) g5) (c42 : h_iv g5 412 42 = nI (M 412 10)) (c43 : h_iv g5 412 43 = nI (M 412 11)) (d1 : M 412 10 ≤ 5) (h6 : M 412 11 < 6) {k316 : Int32 → aH → Option (Unit × aH)} (R' : Option (Unit × aH) → Prop)
    (kG : ∀ g c s' M1, sDiff tx n M 2 (M 412 10) 434 (5 * M 412 11) (n + 2) M0 0 s3 = .inr (M1, c, s') → c ≤ M 412 10 → GS tx n h0 g s' → (∀ w, RV (fun o k => o = 455 ∧ 5 * M 412 11 ≤ k) w g5 g) → (∀ j, j < c → h_iv g 455 (5 * M 412 11 + j) = nI (M1 434 (5 * M 412 11 + j))) → R' (k316 (nI c) g))
    (kB : ∀ g e j, j ≤ 6 → BE n h0 g e → h_iv g 412 43 = nI (M 412 11) → (sDiff tx n M 2 (M 412 10) 434 (5 * M 412 11) (n + 2) M0 0 s3 = .inl e ∨ ∃ M1 c s', sDiff tx n M 2 (M 412 10) 434 (5 * M 412 11) (n + 2) M0 0 s3 = .inr (M1, c, s') ∧ e = (1, s') ∧ tok tx n s' ≠ 3) → R' (k316 (nI j) g)) :
    R' (aL1 (m_X12_kind_L219 412 k316) FU (nI 0) g5) := by
  have z : (nI 0 = nI 0) = True := eq_self _
  have z1 : (nI 1 = nI 0) = False := eq_false (by decide)
  have x1 := X.1
  refine aL1_run (R := R') (fun m s1 g => (∃ f c s' M1, m = f + 1 ∧ s1 = nI c ∧ n + 1 < s' + f ∧ sDiff tx n M 2 (M 412 10) 434 (5 * M 412 11) (n + 2) M0 0 s3 = sDiff tx n M 2 (M 412 10) 434 (5 * M 412 11) f M1 c s' ∧ GS tx n h0 g s' ∧ (∀ w, RV (fun o k => o = 455 ∧ 5 * M 412 11 ≤ k) w g5 g) ∧ (∀ j, j < c → h_iv g 455 (5 * M 412 11 + j) = nI (M1 434 (5 * M 412 11 + j))) ∧ (∀ j, j < c → M1 434 (5 * M 412 11 + j) < M 412 10) ∧ ∀ i j, i < j → j < c → M1 434 (5 * M 412 11 + i) ≠ M1 434 (5 * M 412 11 + j)) ∨ (m = 0 ∧ ∃ e j, s1 = nI j ∧ j ≤ 6 ∧ BE n h0 g e ∧ h_iv g 412 43 = nI (M 412 11) ∧ (sDiff tx n M 2 (M 412 10) 434 (5 * M 412 11) (n + 2) M0 0 s3 = .inl e ∨ ∃ M1 c s', sDiff tx n M 2 (M 412 10) 434 (5 * M 412 11) (n + 2) M0 0 s3 = .inr (M1, c, s') ∧ e = (1, s') ∧ tok tx n s' ≠ 3))) (Or.inl ⟨n + 2, 0, s3, M0, rfl, rfl, by omega, rfl, G5, fun _ => RV.rf, fun j r => absurd r (Nat.not_lt_zero j), fun j r => absurd r (Nat.not_lt_zero j), fun i j _ r => absurd r (Nat.not_lt_zero j)⟩) (by omega) ?_
  rintro rec m s1 g (⟨f, c, s', M1, rfl, rfl, hf, es, Gg, Vg, bA, a2, a3⟩ | ⟨rfl, e, j, rfl, hj, b, c43b, hs⟩) ih
  · have Sg := Gg.1
    have sl := Gg.le
    have cn : c ≤ M 412 10 := pig (f := fun j => M1 434 (5 * M 412 11 + j)) a2 a3
    obtain ⟨pp, pp1, pp2, pp3⟩ := Gg.2.2.2.2.1
    obtain ⟨r5, h5, e5, rfl, F5, a5⟩ := y_isNext Sg (X.ry Gg.2.1) pp2 pp1 pp3 (c := 59) (by omega)
    have Z5 : RZ g h5 := RZ.fx F5 (fun o k r => by unfold RSx; omega)
    have G5' : GS tx n h0 h5 s' := Gg.rz Z5 ⟨F5.iv (by omega), F5.iv (by omega), F5.iv (by omega)⟩ ⟨s', sl.1, a5, sl.2⟩
    have te := tokS (tx := tx) (n := n) (s := s') (Or.inl ⟨rfl, rfl⟩)
    obtain ⟨f, rfl⟩ : ∃ f', f = f' + 1 := ⟨f - 1, by omega⟩
    simp (maxSteps := 3000000) (disch := first | assumption | omega) only [m_X12_kind_L219, bO_v, bR_v, bX_l, bX_r, bC_l, bC_r, aLet_v, nI_add, pk_mul, dvI_n, rmI_n, iMax_n, iMin_n, zO_0, zO_1, li_0, li_1, li_2, li_3, li_4, li_5, li_6, li_7, li_8, li_9, li_10, li_12, li_14, li_15, li_16, li_18, li_19, li_20, li_22, li_23, li_24, li_26, li_29, li_30, li_31, li_32, li_36, li_38, li_48, li_50, li_57, li_58, li_59, li_60, li_63, li_97, li_99, li_120, li_122, li_144, li_168, li_194, li_240, li_255, li_284, li_299, li_603, li_999, li_1200, li_1440, li_4095, li_4096, li_6030, li_16384, li_20160, zl0, zl1, zl2, zl3, zl4, ze01, ze02, ze03, ze04, ze10, ze12, ze13, ze14, ze20, ze21, ze23, ze24, ze30, ze31, ze32, ze34, ze40, ze41, ze42, ze43, zt0, zt1, zt2, zt3, zt4, zq0, zq1, zq2, zq3, zq4, it_t, it_f, Bool.true_eq_false, Bool.false_eq_true, na5, na4, na1441, na2, na10, sx_IOIA, sx_IOIS, sx_IONS, sx_IAIO, sx_IAIS, sx_IANS, sx_ISIO, sx_ISIA, sx_ISNS, sx_NSIO, sx_NSIA, sx_NSIS, r_cM_gi Sg, Gg.2.2.2.1, z, r_cM_gS Sg, e5, b2i_0, decide_eq_false_iff_not, nI_eq, eq_self]
    refine aJ_gen (R := R') (fun k115 hk115 => ?_)
    have go : ∀ g6, RZ g g6 → GS tx n h0 g6 s' → (c = 0 ∨ tok tx n s' ≠ 3) → R' (k115 g6) := fun g6 Z6 G6 ht => by
      have S6 := G6.1
      have V6 := fun w => (Vg w).trans (RZ.rv Z6)
      have c6 : h_iv g6 412 42 = nI (M 412 10) := ((V6 0).1 _ _ (by unfold RSx; omega) (by omega)).trans c42
      have c450 : h_iv g6 412 43 = nI (M 412 11) := ((V6 0).1 _ _ (by unfold RSx; omega) (by omega)).trans c43
      have N6 : NY tx n M 2 (M 412 10) g6 := fun i hi => by
        have := N5 i hi
        exact ⟨this.1, by rw [(V6 29).2 _ (show nmB 2 + i ≠ 29 from by show 18 + i ≠ 29; omega)]; exact this.2⟩
      obtain ⟨r, h9, e9, hh⟩ := y_named X G6 (so := 2) (cnt := M 412 10) N6 (show 18 + M 412 10 ≤ 29 by omega)
      change m_X12_named 412 (nI 18) (nI (M 412 10)) g6 = _ at e9
      rw [hk115]
      simp (maxSteps := 3000000) (disch := first | assumption | omega) only [bO_v, bR_v, bX_l, bX_r, bC_l, bC_r, aLet_v, nI_add, pk_mul, dvI_n, rmI_n, iMax_n, iMin_n, zO_0, zO_1, li_0, li_1, li_2, li_3, li_4, li_5, li_6, li_7, li_8, li_9, li_10, li_12, li_14, li_15, li_16, li_18, li_19, li_20, li_22, li_23, li_24, li_26, li_29, li_30, li_31, li_32, li_36, li_38, li_48, li_50, li_57, li_58, li_59, li_60, li_63, li_97, li_99, li_120, li_122, li_144, li_168, li_194, li_240, li_255, li_284, li_299, li_603, li_999, li_1200, li_1440, li_4095, li_4096, li_6030, li_16384, li_20160, zl0, zl1, zl2, zl3, zl4, ze01, ze02, ze03, ze04, ze10, ze12, ze13, ze14, ze20, ze21, ze23, ze24, ze30, ze31, ze32, ze34, ze40, ze41, ze42, ze43, zt0, zt1, zt2, zt3, zt4, zq0, zq1, zq2, zq3, zq4, it_t, it_f, Bool.true_eq_false, Bool.false_eq_true, na5, na4, na1441, na2, na10, sx_IOIA, sx_IOIS, sx_IONS, sx_IAIO, sx_IAIS, sx_IANS, sx_ISIO, sx_ISIA, sx_ISNS, sx_NSIO, sx_NSIA, sx_NSIS, r_cM_gi S6, c6, r_cM_gS S6, e9]
      refine aJ_gen (R := R') (fun k166 hk166 => ?_)
      have bad : ∀ e g7, BE n h0 g7 e → h_iv g7 412 43 = nI (M 412 11) → (sDiff tx n M 2 (M 412 10) 434 (5 * M 412 11) (n + 2) M0 0 s3 = .inl e ∨ ∃ M1 c s', sDiff tx n M 2 (M 412 10) 434 (5 * M 412 11) (n + 2) M0 0 s3 = .inr (M1, c, s') ∧ e = (1, s') ∧ tok tx n s' ≠ 3) → R' (k166 g7) := fun e g7 b7 c7 hs => by
        rw [hk166]
        simp (maxSteps := 3000000) (disch := first | assumption | omega) only [bO_v, bR_v, bX_l, bX_r, bC_l, bC_r, aJ_v, aLet_v, nI_add, pk_mul, dvI_n, rmI_n, iMax_n, iMin_n, zO_0, zO_1, li_0, li_1, li_2, li_3, li_4, li_5, li_6, li_7, li_8, li_9, li_10, li_12, li_14, li_15, li_16, li_18, li_19, li_20, li_22, li_23, li_24, li_26, li_29, li_30, li_31, li_32, li_36, li_38, li_48, li_50, li_57, li_58, li_59, li_60, li_63, li_97, li_99, li_120, li_122, li_144, li_168, li_194, li_240, li_255, li_284, li_299, li_603, li_999, li_1200, li_1440, li_4095, li_4096, li_6030, li_16384, li_20160, zl0, zl1, zl2, zl3, zl4, ze01, ze02, ze03, ze04, ze10, ze12, ze13, ze14, ze20, ze21, ze23, ze24, ze30, ze31, ze32, ze34, ze40, ze41, ze42, ze43, zt0, zt1, zt2, zt3, zt4, zq0, zq1, zq2, zq3, zq4, it_t, it_f, Bool.true_eq_false, Bool.false_eq_true, na5, na4, na1441, na2, na10, sx_IOIA, sx_IOIS, sx_IONS, sx_IAIO, sx_IAIS, sx_IANS, sx_ISIO, sx_ISIA, sx_ISNS, sx_NSIO, sx_NSIA, sx_NSIS, r_cM_gi b7.1, b7.2.2.2.1, z1]
        exact ih 0 _ _ (by omega) (Or.inr ⟨rfl, e, c, rfl, by omega, b7, c7, hs⟩)
      cases ea : sOf tx n M 2 (M 412 10) s' with
      | inl e =>
        rw [ea] at hh
        obtain ⟨b9, r9, rfl⟩ := hh
        have c9 : h_iv h9 412 43 = nI (M 412 11) := (r9 _ _ (by unfold RSx; omega)).trans c450
        have hs : sDiff tx n M 2 (M 412 10) 434 (5 * M 412 11) (n + 2) M0 0 s3 = .inl e ∨ ∃ M1 c s', sDiff tx n M 2 (M 412 10) 434 (5 * M 412 11) (n + 2) M0 0 s3 = .inr (M1, c, s') ∧ e = (1, s') ∧ tok tx n s' ≠ 3 := by
          by_cases ct : c ≠ 0 ∧ tok tx n s' ≠ 1
          · right
            exact ⟨M1, c, s', by rw [es, sDiff, if_pos ct], sOf_bad ea ct.2, by omega⟩
          · left
            rw [es, sDiff, if_neg ct, ea]; rfl
        refine aL1_run (R := R') (fun m s1 g7 => g7 = h9 ∧ ∃ i, i ≤ c ∧ m = c - i ∧ s1 = nI i) ⟨rfl, 0, Nat.zero_le _, rfl, rfl⟩ (by omega) ?_
        rintro rec2 m s1 g7 ⟨rfl, i, hi, rfl, rfl⟩ ih2
        by_cases hlt : i < c
        · simp (maxSteps := 3000000) (disch := first | assumption | omega) only [m_X12_kind_L252, bO_v, bR_v, bX_l, bX_r, bC_l, bC_r, aJ_v, aLet_v, nI_add, pk_mul, dvI_n, rmI_n, iMax_n, iMin_n, zO_0, zO_1, li_0, li_1, li_2, li_3, li_4, li_5, li_6, li_7, li_8, li_9, li_10, li_12, li_14, li_15, li_16, li_18, li_19, li_20, li_22, li_23, li_24, li_26, li_29, li_30, li_31, li_32, li_36, li_38, li_48, li_50, li_57, li_58, li_59, li_60, li_63, li_97, li_99, li_120, li_122, li_144, li_168, li_194, li_240, li_255, li_284, li_299, li_603, li_999, li_1200, li_1440, li_4095, li_4096, li_6030, li_16384, li_20160, zl0, zl1, zl2, zl3, zl4, ze01, ze02, ze03, ze04, ze10, ze12, ze13, ze14, ze20, ze21, ze23, ze24, ze30, ze31, ze32, ze34, ze40, ze41, ze42, ze43, zt0, zt1, zt2, zt3, zt4, zq0, zq1, zq2, zq3, zq4, it_t, it_f, Bool.true_eq_false, Bool.false_eq_true, na5, na4, na1441, na2, na10, sx_IOIA, sx_IOIS, sx_IONS, sx_IAIO, sx_IAIS, sx_IANS, sx_ISIO, sx_ISIA, sx_ISNS, sx_NSIO, sx_NSIA, sx_NSIS, nI_ltI, r_cM_gi b9.1, c9, r_p455 b9.1, r_c455_al b9.1, r_cM_gS b9.1, y_faultB b9]
          rw [if_pos hlt, ite_self]
          exact ih2 _ _ _ (by omega) ⟨rfl, i + 1, hlt, rfl, rfl⟩
        · simp (maxSteps := 3000000) (disch := first | assumption | omega) only [m_X12_kind_L252, bO_v, bR_v, bX_l, bX_r, bC_l, bC_r, aJ_v, aLet_v, nI_add, pk_mul, dvI_n, rmI_n, iMax_n, iMin_n, zO_0, zO_1, li_0, li_1, li_2, li_3, li_4, li_5, li_6, li_7, li_8, li_9, li_10, li_12, li_14, li_15, li_16, li_18, li_19, li_20, li_22, li_23, li_24, li_26, li_29, li_30, li_31, li_32, li_36, li_38, li_48, li_50, li_57, li_58, li_59, li_60, li_63, li_97, li_99, li_120, li_122, li_144, li_168, li_194, li_240, li_255, li_284, li_299, li_603, li_999, li_1200, li_1440, li_4095, li_4096, li_6030, li_16384, li_20160, zl0, zl1, zl2, zl3, zl4, ze01, ze02, ze03, ze04, ze10, ze12, ze13, ze14, ze20, ze21, ze23, ze24, ze30, ze31, ze32, ze34, ze40, ze41, ze42, ze43, zt0, zt1, zt2, zt3, zt4, zq0, zq1, zq2, zq3, zq4, it_t, it_f, Bool.true_eq_false, Bool.false_eq_true, na5, na4, na1441, na2, na10, sx_IOIA, sx_IOIS, sx_IONS, sx_IAIO, sx_IAIS, sx_IANS, sx_ISIO, sx_ISIA, sx_ISNS, sx_NSIO, sx_NSIA, sx_NSIS, nI_ltI]
          rw [if_neg hlt]
          exact bad e g7 b9 c9 hs
      | inr a =>
        rw [ea] at hh
        obtain ⟨G9, Z9, rfl, a37, ha⟩ := hh
        have S9 := G9.1
        obtain ⟨nw, -, -⟩ := sOf_inr ea
        have t1 : tok tx n s' = 1 := (of_decide_eq_true nw).1
        have ad := adv_gt (tx := tx) (nmd_in nw)
        have ct : ¬ (c ≠ 0 ∧ tok tx n s' ≠ 1) := fun q => q.2 t1
        obtain ⟨-, -, adv2⟩ := sOf_inr ea
        have c9 : h_iv h9 412 43 = nI (M 412 11) := (Z9.ri _ _ (by unfold RSx; omega)).trans c450
        have b9A : ∀ j, j < c → h_iv h9 455 (5 * M 412 11 + j) = nI (M1 434 (5 * M 412 11 + j)) := fun j hj => by rw [Z9.ri _ _ (by unfold RSx; omega), Z6.ri _ _ (by unfold RSx; omega)]; exact bA j hj
        have sp : sDiff tx n M 2 (M 412 10) 434 (5 * M 412 11) (n + 2) M0 0 s3 = if fa_first (fun j => decide (M1 434 (5 * M 412 11 + j) = a.1)) c < c then .inl (3, s') else sDiff tx n M 2 (M 412 10) 434 (5 * M 412 11) f (put M1 434 (5 * M 412 11 + c) a.1) (c + 1) a.2 := by
          rw [es, sDiff, if_neg ct, ea]; rfl
        refine aL1_run (R := R') (fun m s1 g7 => ∃ i, i ≤ c ∧ m = c - i ∧ s1 = nI i ∧ ((g7 = h9 ∧ ∀ j, j < i → M1 434 (5 * M 412 11 + j) ≠ a.1) ∨ (BE n h0 g7 (3, s') ∧ h_iv g7 412 43 = nI (M 412 11) ∧ fa_first (fun j => decide (M1 434 (5 * M 412 11 + j) = a.1)) c < c))) ⟨0, Nat.zero_le _, rfl, rfl, Or.inl ⟨rfl, fun j r => absurd r (Nat.not_lt_zero j)⟩⟩ (by omega) ?_
        rintro rec2 m s1 g7 ⟨i, hi, rfl, rfl, ⟨rfl, no⟩ | ⟨b7, c7, fl⟩⟩ ih2
        · by_cases hlt : i < c
          · have l1 := a2 i hlt
            simp (maxSteps := 3000000) (disch := first | assumption | omega) only [m_X12_kind_L252, bO_v, bR_v, bX_l, bX_r, bC_l, bC_r, aJ_v, aLet_v, nI_add, pk_mul, dvI_n, rmI_n, iMax_n, iMin_n, zO_0, zO_1, li_0, li_1, li_2, li_3, li_4, li_5, li_6, li_7, li_8, li_9, li_10, li_12, li_14, li_15, li_16, li_18, li_19, li_20, li_22, li_23, li_24, li_26, li_29, li_30, li_31, li_32, li_36, li_38, li_48, li_50, li_57, li_58, li_59, li_60, li_63, li_97, li_99, li_120, li_122, li_144, li_168, li_194, li_240, li_255, li_284, li_299, li_603, li_999, li_1200, li_1440, li_4095, li_4096, li_6030, li_16384, li_20160, zl0, zl1, zl2, zl3, zl4, ze01, ze02, ze03, ze04, ze10, ze12, ze13, ze14, ze20, ze21, ze23, ze24, ze30, ze31, ze32, ze34, ze40, ze41, ze42, ze43, zt0, zt1, zt2, zt3, zt4, zq0, zq1, zq2, zq3, zq4, it_t, it_f, Bool.true_eq_false, Bool.false_eq_true, na5, na4, na1441, na2, na10, sx_IOIA, sx_IOIS, sx_IONS, sx_IAIO, sx_IAIS, sx_IANS, sx_ISIO, sx_ISIA, sx_ISNS, sx_NSIO, sx_NSIA, sx_NSIS, nI_ltI, r_cM_gi S9, c9, r_p455 S9, r_c455_al S9, b9A i hlt, nI_eq, eq_self, a37, r_cM_gS S9]
            rw [if_pos hlt]
            by_cases ce : M1 434 (5 * M 412 11 + i) = a.1
            · rw [if_pos ce]
              obtain ⟨q', q1, q2, q3⟩ := G9.2.2.2.2.1
              obtain ⟨h10, e10, b10, F10⟩ := y_fault (n := n) S9 G9.2.1 G9.2.2.1 G9.2.2.2.1 q1 q2 (c := 3) (w := s')
              rw [e10, bR_v]
              exact ih2 _ _ _ (by omega) ⟨i + 1, hlt, rfl, rfl, Or.inr ⟨b10, (F10.iv (by unfold RSx; omega)).trans c9, fst_lt hlt (decide_eq_true ce)⟩⟩
            · rw [if_neg ce]
              refine ih2 _ _ _ (by omega) ⟨i + 1, hlt, rfl, rfl, Or.inl ⟨rfl, fun j hj => ?_⟩⟩
              by_cases cj : j = i
              · rw [cj]; exact ce
              · exact no j (by omega)
          · obtain rfl : i = c := by omega
            have c1 : i + 1 ≤ M 412 10 := pig (f := fun j => if j < i then M1 434 (5 * M 412 11 + j) else a.1) (fun j hj => by
              show (if j < i then M1 434 (5 * M 412 11 + j) else a.1) < _
              split
              · exact a2 j ‹_›
              · exact ha) (fun u j huj hj => by
              show (if u < i then M1 434 (5 * M 412 11 + u) else a.1) ≠ (if j < i then M1 434 (5 * M 412 11 + j) else a.1)
              rw [if_pos (by omega)]
              split
              · exact a3 u j huj ‹_›
              · exact no u (by omega))
            simp (maxSteps := 3000000) (disch := first | assumption | omega) only [m_X12_kind_L252, bO_v, bR_v, bX_l, bX_r, bC_l, bC_r, aJ_v, aLet_v, nI_add, pk_mul, dvI_n, rmI_n, iMax_n, iMin_n, zO_0, zO_1, li_0, li_1, li_2, li_3, li_4, li_5, li_6, li_7, li_8, li_9, li_10, li_12, li_14, li_15, li_16, li_18, li_19, li_20, li_22, li_23, li_24, li_26, li_29, li_30, li_31, li_32, li_36, li_38, li_48, li_50, li_57, li_58, li_59, li_60, li_63, li_97, li_99, li_120, li_122, li_144, li_168, li_194, li_240, li_255, li_284, li_299, li_603, li_999, li_1200, li_1440, li_4095, li_4096, li_6030, li_16384, li_20160, zl0, zl1, zl2, zl3, zl4, ze01, ze02, ze03, ze04, ze10, ze12, ze13, ze14, ze20, ze21, ze23, ze24, ze30, ze31, ze32, ze34, ze40, ze41, ze42, ze43, zt0, zt1, zt2, zt3, zt4, zq0, zq1, zq2, zq3, zq4, it_t, it_f, Bool.true_eq_false, Bool.false_eq_true, na5, na4, na1441, na2, na10, sx_IOIA, sx_IOIS, sx_IONS, sx_IAIO, sx_IAIS, sx_IANS, sx_ISIO, sx_ISIA, sx_ISNS, sx_NSIO, sx_NSIA, sx_NSIS, nI_ltI]
            rw [if_neg hlt, hk166]
            have G10 := G9.si (o := 455) (k := 5 * M 412 11 + i) (v := a.1) (by unfold RX; omega) (by omega) (by omega)
            simp (maxSteps := 3000000) (disch := first | assumption | omega) only [bO_v, bR_v, bX_l, bX_r, bC_l, bC_r, aJ_v, aLet_v, nI_add, pk_mul, dvI_n, rmI_n, iMax_n, iMin_n, zO_0, zO_1, li_0, li_1, li_2, li_3, li_4, li_5, li_6, li_7, li_8, li_9, li_10, li_12, li_14, li_15, li_16, li_18, li_19, li_20, li_22, li_23, li_24, li_26, li_29, li_30, li_31, li_32, li_36, li_38, li_48, li_50, li_57, li_58, li_59, li_60, li_63, li_97, li_99, li_120, li_122, li_144, li_168, li_194, li_240, li_255, li_284, li_299, li_603, li_999, li_1200, li_1440, li_4095, li_4096, li_6030, li_16384, li_20160, zl0, zl1, zl2, zl3, zl4, ze01, ze02, ze03, ze04, ze10, ze12, ze13, ze14, ze20, ze21, ze23, ze24, ze30, ze31, ze32, ze34, ze40, ze41, ze42, ze43, zt0, zt1, zt2, zt3, zt4, zq0, zq1, zq2, zq3, zq4, it_t, it_f, Bool.true_eq_false, Bool.false_eq_true, na5, na4, na1441, na2, na10, sx_IOIA, sx_IOIS, sx_IONS, sx_IAIO, sx_IAIS, sx_IANS, sx_ISIO, sx_ISIA, sx_ISNS, sx_NSIO, sx_NSIA, sx_NSIS, r_cM_gi S9, G9.2.2.2.1, z, r_p455 S9, c9, r_c455_as S9]
            rw [if_neg (fst_nlt (fun j hj => decide_eq_false (no j hj)))] at sp
            refine ih (f + 1) _ _ (by omega) (Or.inl ⟨f, i + 1, a.2, _, rfl, rfl, by omega, sp, G10, fun w => ((V6 w).trans Z9.rv).trans (RV.si ⟨rfl, by omega⟩), fun j hj => ?_, fun j hj => ?_, fun u j huj hj => ?_⟩)
            · by_cases cj : j = i
              · rw [cj, si_at, put_e]
              · rw [si_ne (by omega), put_n (by omega)]; exact b9A j (by omega)
            · by_cases cj : j = i
              · rw [cj, put_e]; exact ha
              · rw [put_n (by omega)]; exact a2 j (by omega)
            · by_cases cj : j = i
              · rw [cj, put_e, put_n (by omega)]; exact no u (by omega)
              · rw [put_n (by omega), put_n (by omega)]; exact a3 u j huj (by omega)
        · by_cases hlt : i < c
          · simp (maxSteps := 3000000) (disch := first | assumption | omega) only [m_X12_kind_L252, bO_v, bR_v, bX_l, bX_r, bC_l, bC_r, aJ_v, aLet_v, nI_add, pk_mul, dvI_n, rmI_n, iMax_n, iMin_n, zO_0, zO_1, li_0, li_1, li_2, li_3, li_4, li_5, li_6, li_7, li_8, li_9, li_10, li_12, li_14, li_15, li_16, li_18, li_19, li_20, li_22, li_23, li_24, li_26, li_29, li_30, li_31, li_32, li_36, li_38, li_48, li_50, li_57, li_58, li_59, li_60, li_63, li_97, li_99, li_120, li_122, li_144, li_168, li_194, li_240, li_255, li_284, li_299, li_603, li_999, li_1200, li_1440, li_4095, li_4096, li_6030, li_16384, li_20160, zl0, zl1, zl2, zl3, zl4, ze01, ze02, ze03, ze04, ze10, ze12, ze13, ze14, ze20, ze21, ze23, ze24, ze30, ze31, ze32, ze34, ze40, ze41, ze42, ze43, zt0, zt1, zt2, zt3, zt4, zq0, zq1, zq2, zq3, zq4, it_t, it_f, Bool.true_eq_false, Bool.false_eq_true, na5, na4, na1441, na2, na10, sx_IOIA, sx_IOIS, sx_IONS, sx_IAIO, sx_IAIS, sx_IANS, sx_ISIO, sx_ISIA, sx_ISNS, sx_NSIO, sx_NSIA, sx_NSIS, nI_ltI, r_cM_gi b7.1, c7, r_p455 b7.1, r_c455_al b7.1, r_cM_gS b7.1, y_faultB b7]
            rw [if_pos hlt, ite_self]
            exact ih2 _ _ _ (by omega) ⟨i + 1, hlt, rfl, rfl, Or.inr ⟨b7, c7, fl⟩⟩
          · simp (maxSteps := 3000000) (disch := first | assumption | omega) only [m_X12_kind_L252, bO_v, bR_v, bX_l, bX_r, bC_l, bC_r, aJ_v, aLet_v, nI_add, pk_mul, dvI_n, rmI_n, iMax_n, iMin_n, zO_0, zO_1, li_0, li_1, li_2, li_3, li_4, li_5, li_6, li_7, li_8, li_9, li_10, li_12, li_14, li_15, li_16, li_18, li_19, li_20, li_22, li_23, li_24, li_26, li_29, li_30, li_31, li_32, li_36, li_38, li_48, li_50, li_57, li_58, li_59, li_60, li_63, li_97, li_99, li_120, li_122, li_144, li_168, li_194, li_240, li_255, li_284, li_299, li_603, li_999, li_1200, li_1440, li_4095, li_4096, li_6030, li_16384, li_20160, zl0, zl1, zl2, zl3, zl4, ze01, ze02, ze03, ze04, ze10, ze12, ze13, ze14, ze20, ze21, ze23, ze24, ze30, ze31, ze32, ze34, ze40, ze41, ze42, ze43, zt0, zt1, zt2, zt3, zt4, zq0, zq1, zq2, zq3, zq4, it_t, it_f, Bool.true_eq_false, Bool.false_eq_true, na5, na4, na1441, na2, na10, sx_IOIA, sx_IOIS, sx_IONS, sx_IAIO, sx_IAIS, sx_IANS, sx_ISIO, sx_ISIA, sx_ISNS, sx_NSIO, sx_NSIA, sx_NSIS, nI_ltI]
            rw [if_neg hlt]
            exact bad (3, s') g7 b7 c7 (Or.inl (by rw [sp, if_pos fl]))
    by_cases c0 : c = 0
    · rw [if_pos c0]; exact go g RZ.rf Gg (Or.inl c0)
    · rw [if_neg c0]
      by_cases t3 : tok tx n s' = 3
      · rw [if_neg (fun q => q (te.mp t3))]
        exact kG h5 c s' M1 (by rw [es, sDiff, if_pos ⟨c0, by omega⟩]) cn G5' (fun w => (Vg w).trans Z5.rv) (fun j hj => by rw [Z5.ri _ _ (by unfold RSx; omega)]; exact bA j hj)
      · rw [if_pos (fun q => t3 (te.mpr q))]; exact go h5 Z5 G5' (Or.inr t3)
  · simp (maxSteps := 3000000) (disch := first | assumption | omega) only [m_X12_kind_L219, bO_v, bR_v, bX_l, bX_r, bC_l, bC_r, aLet_v, nI_add, pk_mul, dvI_n, rmI_n, iMax_n, iMin_n, zO_0, zO_1, li_0, li_1, li_2, li_3, li_4, li_5, li_6, li_7, li_8, li_9, li_10, li_12, li_14, li_15, li_16, li_18, li_19, li_20, li_22, li_23, li_24, li_26, li_29, li_30, li_31, li_32, li_36, li_38, li_48, li_50, li_57, li_58, li_59, li_60, li_63, li_97, li_99, li_120, li_122, li_144, li_168, li_194, li_240, li_255, li_284, li_299, li_603, li_999, li_1200, li_1440, li_4095, li_4096, li_6030, li_16384, li_20160, zl0, zl1, zl2, zl3, zl4, ze01, ze02, ze03, ze04, ze10, ze12, ze13, ze14, ze20, ze21, ze23, ze24, ze30, ze31, ze32, ze34, ze40, ze41, ze42, ze43, zt0, zt1, zt2, zt3, zt4, zq0, zq1, zq2, zq3, zq4, it_t, it_f, Bool.true_eq_false, Bool.false_eq_true, na5, na4, na1441, na2, na10, sx_IOIA, sx_IOIS, sx_IONS, sx_IAIO, sx_IAIS, sx_IANS, sx_ISIO, sx_ISIA, sx_ISNS, sx_NSIO, sx_NSIA, sx_NSIS, r_cM_gi b.1, b.2.2.2.1, z1]
    exact kB g e j hj b c43b hs
end
