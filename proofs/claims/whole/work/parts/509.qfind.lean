/-! find, of both -/
theorem fst_cong {q r : Nat → Bool} {c : Nat} (h : ∀ i, i < c → q i = r i) : fa_first q c = fa_first r c := by
  have l1 := fa_first_le q c
  have l2 := fa_first_le r c
  rcases Nat.lt_trichotomy (fa_first q c) (fa_first r c) with k | k | k
  · have a := fa_first_yes q c (by omega)
    have b := fa_first_no r c _ k
    rw [← h _ (by omega), a] at b; cases b
  · exact k
  · have a := fa_first_yes r c (by omega)
    have b := fa_first_no q c _ k
    rw [h _ (by omega), a] at b; cases b
section
variable {h g : aH} {T : Nat → Nat → Nat} {P Q : Nat} {tx : Nat → Nat} {n : Nat}
def fo27 (h : aH) (b cnt : Nat) (v : Int64) : Nat := fa_first (fun i => decide (h_lv h 419 (b + i) = v)) cnt
theorem y_f180 (hS : Sh h) {b cnt : Nat} (hb : b + cnt ≤ 29) {v : Int64} (k211 : aH → Option (Int32 × aH)) (k202 : Int32 → aH → Option (Int32 × aH)) (Z : Option (Int32 × aH) → Prop) (h1 : fo27 h b cnt v < cnt → Z (k202 (nI (fo27 h b cnt v)) h)) (h2 : ¬ fo27 h b cnt v < cnt → Z (k211 h)) : Z (aL1 (m_X12_find_L180 412 v (nI b) (nI cnt) k211 k202) FU (nI 0) h) := by
  refine aL1_run (R := Z) (fun m s1 g => g = h ∧ ∃ i, i ≤ cnt ∧ m = cnt - i ∧ s1 = nI i ∧ ∀ j, j < i → h_lv h 419 (b + j) ≠ v) ⟨rfl, 0, Nat.zero_le _, rfl, rfl, fun j r => absurd r (Nat.not_lt_zero j)⟩ (by omega) ?_
  rintro rec m s1 g ⟨rfl, i, hi, rfl, rfl, no⟩ ih
  by_cases hlt : i < cnt
  · simp (maxSteps := 3000000) (disch := first | assumption | omega) only [m_X12_find_L180, bO_v, bR_v, bX_l, bX_r, bC_l, bC_r, aLet_v, nI_add, pk_mul, dvI_n, rmI_n, iMax_n, iMin_n, zO_0, zO_1, li_0, li_1, li_2, li_3, li_4, li_5, li_6, li_7, li_8, li_9, li_10, li_12, li_14, li_15, li_16, li_18, li_19, li_20, li_22, li_23, li_24, li_26, li_29, li_30, li_31, li_32, li_36, li_38, li_48, li_50, li_57, li_58, li_59, li_60, li_63, li_97, li_99, li_120, li_122, li_144, li_168, li_194, li_240, li_255, li_284, li_299, li_603, li_999, li_1200, li_1440, li_4095, li_4096, li_6030, li_16384, li_20160, zl0, zl1, zl2, zl3, zl4, ze01, ze02, ze03, ze04, ze10, ze12, ze13, ze14, ze20, ze21, ze23, ze24, ze30, ze31, ze32, ze34, ze40, ze41, ze42, ze43, zt0, zt1, zt2, zt3, zt4, zq0, zq1, zq2, zq3, zq4, it_t, it_f, Bool.true_eq_false, Bool.false_eq_true, na5, na4, na1441, na2, na10, sx_IOIA, sx_IOIS, sx_IONS, sx_IAIO, sx_IAIS, sx_IANS, sx_ISIO, sx_ISIA, sx_ISNS, sx_NSIO, sx_NSIA, sx_NSIS, nI_ltI, if_pos hlt, r_p419 hS, r_c419_al hS, lgc_eqn]
    by_cases c : h_lv g 419 (b + i) = v
    · rw [if_pos c]
      have e : fo27 g b cnt v = i := fst_is hlt (decide_eq_true c) (fun j hj => decide_eq_false (no j hj))
      rw [e] at h1
      exact h1 hlt
    · rw [if_neg c]
      refine ih _ _ _ (by omega) ⟨rfl, i + 1, hlt, rfl, rfl, fun j hj => ?_⟩
      by_cases cj : j = i
      · rw [cj]; exact c
      · exact no j (by omega)
  · obtain rfl : i = cnt := by omega
    simp (maxSteps := 3000000) (disch := first | assumption | omega) only [m_X12_find_L180, bO_v, bR_v, bX_l, bX_r, bC_l, bC_r, aLet_v, nI_add, pk_mul, dvI_n, rmI_n, iMax_n, iMin_n, zO_0, zO_1, li_0, li_1, li_2, li_3, li_4, li_5, li_6, li_7, li_8, li_9, li_10, li_12, li_14, li_15, li_16, li_18, li_19, li_20, li_22, li_23, li_24, li_26, li_29, li_30, li_31, li_32, li_36, li_38, li_48, li_50, li_57, li_58, li_59, li_60, li_63, li_97, li_99, li_120, li_122, li_144, li_168, li_194, li_240, li_255, li_284, li_299, li_603, li_999, li_1200, li_1440, li_4095, li_4096, li_6030, li_16384, li_20160, zl0, zl1, zl2, zl3, zl4, ze01, ze02, ze03, ze04, ze10, ze12, ze13, ze14, ze20, ze21, ze23, ze24, ze30, ze31, ze32, ze34, ze40, ze41, ze42, ze43, zt0, zt1, zt2, zt3, zt4, zq0, zq1, zq2, zq3, zq4, it_t, it_f, Bool.true_eq_false, Bool.false_eq_true, na5, na4, na1441, na2, na10, sx_IOIA, sx_IOIS, sx_IONS, sx_IAIO, sx_IAIS, sx_IANS, sx_ISIO, sx_ISIA, sx_ISNS, sx_NSIO, sx_NSIA, sx_NSIS, nI_ltI, if_neg hlt]
    exact h2 (fst_nlt (fun j hj => decide_eq_false (no j hj)))
theorem y_find4 (hS : Sh h) (X : TR tx n h) {so cnt : Nat} (hso : so < 4) (hb : nmB so + cnt ≤ 29) (ec : h_iv h 412 (8 + so) = nI cnt) : OK (m_X12_find 412 (nI so) h) (fun w h2 => Fx (fun o k => o = 412 ∧ (k = 0 ∨ k = 29)) h h2 ∧ h_iv h2 412 29 = nI 0 ∧ (fo27 h (nmB so) cnt (rvN tx n) < cnt → w = nI (fo27 h (nmB so) cnt (rvN tx n)) ∧ h_iv h2 412 0 = nI 0) ∧ (¬ fo27 h (nmB so) cnt (rvN tx n) < cnt → h_iv h2 412 0 = nI 2)) := by
  have z : (nI 0 = nI 0) = True := eq_self _
  have z3 : (nI 0 ≤ nI 0) = True := eq_true (by decide)
  have z4 : (nI 1 = nI 0) = False := eq_false (by decide)
  have nin : m_X12_in ((nI so).toInt64) (0 : Int64) (3 : Int64) h = some (nI 1, h) := by
    have := r_in (h := h) (x := nI so) (y := nI 3)
    refine this.trans ?_
    rw [nI_toInt (by omega), nI_toInt (by omega), decide_eq_true (by omega)]
    rfl
  have S1 := hS.si 412 0 (nI 0)
  have X1 : TR tx n (h_si h 412 0 (nI 0)) := ⟨X.1, (si_ne (by omega)).trans X.2.1, fun k hk => ⟨(X.2.2 k hk).1, (si_ne (by omega)).trans (X.2.2 k hk).2⟩⟩
  have S2 := S1.si 412 29 (nI 0)
  have a0 : h_iv (h_si (h_si h 412 0 (nI 0)) 412 29 (nI 0)) 412 0 = nI 0 := by rw [si_ne (by omega), si_at]
  have a29 : h_iv (h_si (h_si h 412 0 (nI 0)) 412 29 (nI 0)) 412 29 = nI 0 := si_at
  have F2 : Fx (fun o k => o = 412 ∧ (k = 0 ∨ k = 29)) h (h_si (h_si h 412 0 (nI 0)) 412 29 (nI 0)) := (Fx.si (A := fun o k => o = 412 ∧ (k = 0 ∨ k = 29)) ⟨rfl, Or.inl rfl⟩).trans (Fx.si ⟨rfl, Or.inr rfl⟩)
  have ec2 : h_iv (h_si (h_si h 412 0 (nI 0)) 412 29 (nI 0)) 412 (8 + so) = nI cnt := by rw [F2.iv (by omega)]; exact ec
  have l2 : h_lv (h_si (h_si h 412 0 (nI 0)) 412 29 (nI 0)) = h_lv h := rfl
  have ef : fo27 (h_si (h_si h 412 0 (nI 0)) 412 29 (nI 0)) (nmB so) cnt (rvN tx n) = fo27 h (nmB so) cnt (rvN tx n) := by unfold fo27; rw [l2]
  generalize hK : (fun (w : Int32) (h2 : aH) => Fx (fun o k => o = 412 ∧ (k = 0 ∨ k = 29)) h h2 ∧ h_iv h2 412 29 = nI 0 ∧ (fo27 h (nmB so) cnt (rvN tx n) < cnt → w = nI (fo27 h (nmB so) cnt (rvN tx n)) ∧ h_iv h2 412 0 = nI 0) ∧ (¬ fo27 h (nmB so) cnt (rvN tx n) < cnt → h_iv h2 412 0 = nI 2)) = K
  have fin : ∀ g2, g2 = h_si (h_si h 412 0 (nI 0)) 412 29 (nI 0) → ∀ b, b = nmB so → OK (aL1 (m_X12_find_L180 412 (rvN tx n) (nI b) (nI cnt) (fun h8 => bO (pi h8 12 412 0 (nI 2)) fun h9 => some (nI 0, h9)) (fun x9 h10 => some (x9, h10))) FU (nI 0) g2) K := by
    rintro g2 rfl b rfl
    refine y_f180 S2 hb _ _ (fun o => OK o K) (fun c => ?_) (fun c => ?_)
    · rw [← hK]
      exact ok_ret ⟨F2, a29, fun _ => ⟨by rw [ef], a0⟩, fun q => absurd (by rw [ef] at c; exact c) q⟩
    · simp (maxSteps := 3000000) (disch := first | assumption | omega) only [bO_v, bR_v, bX_l, bX_r, bC_l, bC_r, aLet_v, nI_add, pk_mul, dvI_n, rmI_n, iMax_n, iMin_n, zO_0, zO_1, li_0, li_1, li_2, li_3, li_4, li_5, li_6, li_7, li_8, li_9, li_10, li_12, li_14, li_15, li_16, li_18, li_19, li_20, li_22, li_23, li_24, li_26, li_29, li_30, li_31, li_32, li_36, li_38, li_48, li_50, li_57, li_58, li_59, li_60, li_63, li_97, li_99, li_120, li_122, li_144, li_168, li_194, li_240, li_255, li_284, li_299, li_603, li_999, li_1200, li_1440, li_4095, li_4096, li_6030, li_16384, li_20160, zl0, zl1, zl2, zl3, zl4, ze01, ze02, ze03, ze04, ze10, ze12, ze13, ze14, ze20, ze21, ze23, ze24, ze30, ze31, ze32, ze34, ze40, ze41, ze42, ze43, zt0, zt1, zt2, zt3, zt4, zq0, zq1, zq2, zq3, zq4, it_t, it_f, Bool.true_eq_false, Bool.false_eq_true, na5, na4, na1441, na2, na10, sx_IOIA, sx_IOIS, sx_IONS, sx_IAIO, sx_IAIS, sx_IANS, sx_ISIO, sx_ISIA, sx_ISNS, sx_NSIO, sx_NSIA, sx_NSIS, r_cM_pi S2]
      rw [← hK]
      exact ok_ret ⟨F2.trans (Fx.si ⟨rfl, Or.inl rfl⟩), by rw [si_ne (by omega)]; exact a29, fun q => absurd q (by rw [ef] at c; exact c), fun _ => si_at⟩
  rcases (show so = 0 ∨ so = 1 ∨ so = 2 ∨ so = 3 by omega) with r | r | r | r <;> subst r
  · simp (maxSteps := 3000000) (disch := first | assumption | omega) only [m_X12_find, bO_v, bR_v, bX_l, bX_r, bC_l, bC_r, aJ_v, aLet_v, nI_add, pk_mul, dvI_n, rmI_n, iMax_n, iMin_n, zO_0, zO_1, li_0, li_1, li_2, li_3, li_4, li_5, li_6, li_7, li_8, li_9, li_10, li_12, li_14, li_15, li_16, li_18, li_19, li_20, li_22, li_23, li_24, li_26, li_29, li_30, li_31, li_32, li_36, li_38, li_48, li_50, li_57, li_58, li_59, li_60, li_63, li_97, li_99, li_120, li_122, li_144, li_168, li_194, li_240, li_255, li_284, li_299, li_603, li_999, li_1200, li_1440, li_4095, li_4096, li_6030, li_16384, li_20160, zl0, zl1, zl2, zl3, zl4, ze01, ze02, ze03, ze04, ze10, ze12, ze13, ze14, ze20, ze21, ze23, ze24, ze30, ze31, ze32, ze34, ze40, ze41, ze42, ze43, zt0, zt1, zt2, zt3, zt4, zq0, zq1, zq2, zq3, zq4, it_t, it_f, Bool.true_eq_false, Bool.false_eq_true, na5, na4, na1441, na2, na10, sx_IOIA, sx_IOIS, sx_IONS, sx_IAIO, sx_IAIS, sx_IANS, sx_ISIO, sx_ISIA, sx_ISNS, sx_NSIO, sx_NSIA, sx_NSIS, nin, z4, r_cM_pi hS]
    refine y_findL S1 X1 _ (fun o => OK o K) ?_
    simp (maxSteps := 3000000) (disch := first | assumption | omega) only [bO_v, bR_v, bX_l, bX_r, bC_l, bC_r, aJ_v, aLet_v, nI_add, pk_mul, dvI_n, rmI_n, iMax_n, iMin_n, zO_0, zO_1, li_0, li_1, li_2, li_3, li_4, li_5, li_6, li_7, li_8, li_9, li_10, li_12, li_14, li_15, li_16, li_18, li_19, li_20, li_22, li_23, li_24, li_26, li_29, li_30, li_31, li_32, li_36, li_38, li_48, li_50, li_57, li_58, li_59, li_60, li_63, li_97, li_99, li_120, li_122, li_144, li_168, li_194, li_240, li_255, li_284, li_299, li_603, li_999, li_1200, li_1440, li_4095, li_4096, li_6030, li_16384, li_20160, zl0, zl1, zl2, zl3, zl4, ze01, ze02, ze03, ze04, ze10, ze12, ze13, ze14, ze20, ze21, ze23, ze24, ze30, ze31, ze32, ze34, ze40, ze41, ze42, ze43, zt0, zt1, zt2, zt3, zt4, zq0, zq1, zq2, zq3, zq4, it_t, it_f, Bool.true_eq_false, Bool.false_eq_true, na5, na4, na1441, na2, na10, sx_IOIA, sx_IOIS, sx_IONS, sx_IAIO, sx_IAIS, sx_IANS, sx_ISIO, sx_ISIA, sx_ISNS, sx_NSIO, sx_NSIA, sx_NSIS, r_cM_pi S1, r_cM_gi S2, a0, z3, z, ec2]
    exact fin _ rfl _ rfl
  · simp (maxSteps := 3000000) (disch := first | assumption | omega) only [m_X12_find, bO_v, bR_v, bX_l, bX_r, bC_l, bC_r, aJ_v, aLet_v, nI_add, pk_mul, dvI_n, rmI_n, iMax_n, iMin_n, zO_0, zO_1, li_0, li_1, li_2, li_3, li_4, li_5, li_6, li_7, li_8, li_9, li_10, li_12, li_14, li_15, li_16, li_18, li_19, li_20, li_22, li_23, li_24, li_26, li_29, li_30, li_31, li_32, li_36, li_38, li_48, li_50, li_57, li_58, li_59, li_60, li_63, li_97, li_99, li_120, li_122, li_144, li_168, li_194, li_240, li_255, li_284, li_299, li_603, li_999, li_1200, li_1440, li_4095, li_4096, li_6030, li_16384, li_20160, zl0, zl1, zl2, zl3, zl4, ze01, ze02, ze03, ze04, ze10, ze12, ze13, ze14, ze20, ze21, ze23, ze24, ze30, ze31, ze32, ze34, ze40, ze41, ze42, ze43, zt0, zt1, zt2, zt3, zt4, zq0, zq1, zq2, zq3, zq4, it_t, it_f, Bool.true_eq_false, Bool.false_eq_true, na5, na4, na1441, na2, na10, sx_IOIA, sx_IOIS, sx_IONS, sx_IAIO, sx_IAIS, sx_IANS, sx_ISIO, sx_ISIA, sx_ISNS, sx_NSIO, sx_NSIA, sx_NSIS, nin, z4, r_cM_pi hS]
    refine y_findL S1 X1 _ (fun o => OK o K) ?_
    simp (maxSteps := 3000000) (disch := first | assumption | omega) only [bO_v, bR_v, bX_l, bX_r, bC_l, bC_r, aJ_v, aLet_v, nI_add, pk_mul, dvI_n, rmI_n, iMax_n, iMin_n, zO_0, zO_1, li_0, li_1, li_2, li_3, li_4, li_5, li_6, li_7, li_8, li_9, li_10, li_12, li_14, li_15, li_16, li_18, li_19, li_20, li_22, li_23, li_24, li_26, li_29, li_30, li_31, li_32, li_36, li_38, li_48, li_50, li_57, li_58, li_59, li_60, li_63, li_97, li_99, li_120, li_122, li_144, li_168, li_194, li_240, li_255, li_284, li_299, li_603, li_999, li_1200, li_1440, li_4095, li_4096, li_6030, li_16384, li_20160, zl0, zl1, zl2, zl3, zl4, ze01, ze02, ze03, ze04, ze10, ze12, ze13, ze14, ze20, ze21, ze23, ze24, ze30, ze31, ze32, ze34, ze40, ze41, ze42, ze43, zt0, zt1, zt2, zt3, zt4, zq0, zq1, zq2, zq3, zq4, it_t, it_f, Bool.true_eq_false, Bool.false_eq_true, na5, na4, na1441, na2, na10, sx_IOIA, sx_IOIS, sx_IONS, sx_IAIO, sx_IAIS, sx_IANS, sx_ISIO, sx_ISIA, sx_ISNS, sx_NSIO, sx_NSIA, sx_NSIS, r_cM_pi S1, r_cM_gi S2, a0, z3, z, ec2]
    exact fin _ rfl _ rfl
  · simp (maxSteps := 3000000) (disch := first | assumption | omega) only [m_X12_find, bO_v, bR_v, bX_l, bX_r, bC_l, bC_r, aJ_v, aLet_v, nI_add, pk_mul, dvI_n, rmI_n, iMax_n, iMin_n, zO_0, zO_1, li_0, li_1, li_2, li_3, li_4, li_5, li_6, li_7, li_8, li_9, li_10, li_12, li_14, li_15, li_16, li_18, li_19, li_20, li_22, li_23, li_24, li_26, li_29, li_30, li_31, li_32, li_36, li_38, li_48, li_50, li_57, li_58, li_59, li_60, li_63, li_97, li_99, li_120, li_122, li_144, li_168, li_194, li_240, li_255, li_284, li_299, li_603, li_999, li_1200, li_1440, li_4095, li_4096, li_6030, li_16384, li_20160, zl0, zl1, zl2, zl3, zl4, ze01, ze02, ze03, ze04, ze10, ze12, ze13, ze14, ze20, ze21, ze23, ze24, ze30, ze31, ze32, ze34, ze40, ze41, ze42, ze43, zt0, zt1, zt2, zt3, zt4, zq0, zq1, zq2, zq3, zq4, it_t, it_f, Bool.true_eq_false, Bool.false_eq_true, na5, na4, na1441, na2, na10, sx_IOIA, sx_IOIS, sx_IONS, sx_IAIO, sx_IAIS, sx_IANS, sx_ISIO, sx_ISIA, sx_ISNS, sx_NSIO, sx_NSIA, sx_NSIS, nin, z4, r_cM_pi hS]
    refine y_findL S1 X1 _ (fun o => OK o K) ?_
    simp (maxSteps := 3000000) (disch := first | assumption | omega) only [bO_v, bR_v, bX_l, bX_r, bC_l, bC_r, aJ_v, aLet_v, nI_add, pk_mul, dvI_n, rmI_n, iMax_n, iMin_n, zO_0, zO_1, li_0, li_1, li_2, li_3, li_4, li_5, li_6, li_7, li_8, li_9, li_10, li_12, li_14, li_15, li_16, li_18, li_19, li_20, li_22, li_23, li_24, li_26, li_29, li_30, li_31, li_32, li_36, li_38, li_48, li_50, li_57, li_58, li_59, li_60, li_63, li_97, li_99, li_120, li_122, li_144, li_168, li_194, li_240, li_255, li_284, li_299, li_603, li_999, li_1200, li_1440, li_4095, li_4096, li_6030, li_16384, li_20160, zl0, zl1, zl2, zl3, zl4, ze01, ze02, ze03, ze04, ze10, ze12, ze13, ze14, ze20, ze21, ze23, ze24, ze30, ze31, ze32, ze34, ze40, ze41, ze42, ze43, zt0, zt1, zt2, zt3, zt4, zq0, zq1, zq2, zq3, zq4, it_t, it_f, Bool.true_eq_false, Bool.false_eq_true, na5, na4, na1441, na2, na10, sx_IOIA, sx_IOIS, sx_IONS, sx_IAIO, sx_IAIS, sx_IANS, sx_ISIO, sx_ISIA, sx_ISNS, sx_NSIO, sx_NSIA, sx_NSIS, r_cM_pi S1, r_cM_gi S2, a0, z3, z, ec2]
    exact fin _ rfl _ rfl
  · simp (maxSteps := 3000000) (disch := first | assumption | omega) only [m_X12_find, bO_v, bR_v, bX_l, bX_r, bC_l, bC_r, aJ_v, aLet_v, nI_add, pk_mul, dvI_n, rmI_n, iMax_n, iMin_n, zO_0, zO_1, li_0, li_1, li_2, li_3, li_4, li_5, li_6, li_7, li_8, li_9, li_10, li_12, li_14, li_15, li_16, li_18, li_19, li_20, li_22, li_23, li_24, li_26, li_29, li_30, li_31, li_32, li_36, li_38, li_48, li_50, li_57, li_58, li_59, li_60, li_63, li_97, li_99, li_120, li_122, li_144, li_168, li_194, li_240, li_255, li_284, li_299, li_603, li_999, li_1200, li_1440, li_4095, li_4096, li_6030, li_16384, li_20160, zl0, zl1, zl2, zl3, zl4, ze01, ze02, ze03, ze04, ze10, ze12, ze13, ze14, ze20, ze21, ze23, ze24, ze30, ze31, ze32, ze34, ze40, ze41, ze42, ze43, zt0, zt1, zt2, zt3, zt4, zq0, zq1, zq2, zq3, zq4, it_t, it_f, Bool.true_eq_false, Bool.false_eq_true, na5, na4, na1441, na2, na10, sx_IOIA, sx_IOIS, sx_IONS, sx_IAIO, sx_IAIS, sx_IANS, sx_ISIO, sx_ISIA, sx_ISNS, sx_NSIO, sx_NSIA, sx_NSIS, nin, z4, r_cM_pi hS]
    refine y_findL S1 X1 _ (fun o => OK o K) ?_
    simp (maxSteps := 3000000) (disch := first | assumption | omega) only [bO_v, bR_v, bX_l, bX_r, bC_l, bC_r, aJ_v, aLet_v, nI_add, pk_mul, dvI_n, rmI_n, iMax_n, iMin_n, zO_0, zO_1, li_0, li_1, li_2, li_3, li_4, li_5, li_6, li_7, li_8, li_9, li_10, li_12, li_14, li_15, li_16, li_18, li_19, li_20, li_22, li_23, li_24, li_26, li_29, li_30, li_31, li_32, li_36, li_38, li_48, li_50, li_57, li_58, li_59, li_60, li_63, li_97, li_99, li_120, li_122, li_144, li_168, li_194, li_240, li_255, li_284, li_299, li_603, li_999, li_1200, li_1440, li_4095, li_4096, li_6030, li_16384, li_20160, zl0, zl1, zl2, zl3, zl4, ze01, ze02, ze03, ze04, ze10, ze12, ze13, ze14, ze20, ze21, ze23, ze24, ze30, ze31, ze32, ze34, ze40, ze41, ze42, ze43, zt0, zt1, zt2, zt3, zt4, zq0, zq1, zq2, zq3, zq4, it_t, it_f, Bool.true_eq_false, Bool.false_eq_true, na5, na4, na1441, na2, na10, sx_IOIA, sx_IOIS, sx_IONS, sx_IAIO, sx_IAIS, sx_IANS, sx_ISIO, sx_ISIA, sx_ISNS, sx_NSIO, sx_NSIA, sx_NSIS, r_cM_pi S1, r_cM_gi S2, a0, z3, z, ec2]
    exact fin _ rfl _ rfl
theorem y_find1 (hS : Sh h) (X : TR tx n h) {x : Int32} (c : inr x 4 = false) : OK (m_X12_find 412 x h) (fun _ h2 => Fx (fun o k => o = 412 ∧ (k = 0 ∨ k = 29)) h h2 ∧ h_iv h2 412 29 = nI 0 ∧ h_iv h2 412 0 = nI 1) := by
  have z : (nI 0 = nI 0) = True := eq_self _
  have z2 : (nI 1 ≤ nI 0) = False := eq_false (by decide)
  have nin : m_X12_in (x.toInt64) (0 : Int64) (3 : Int64) h = some (nI 0, h) := by
    have := r_in (h := h) (x := x) (y := nI 3)
    refine this.trans ?_
    rw [nI_toInt (by omega), decide_eq_false (fun q => ?_)]
    · rfl
    · have := of_decide_eq_false c
      omega
  have S1 := hS.si 412 0 (nI 1)
  have X1 : TR tx n (h_si h 412 0 (nI 1)) := ⟨X.1, (si_ne (by omega)).trans X.2.1, fun k hk => ⟨(X.2.2 k hk).1, (si_ne (by omega)).trans (X.2.2 k hk).2⟩⟩
  have S2 := S1.si 412 29 (nI 0)
  have a0 : h_iv (h_si (h_si h 412 0 (nI 1)) 412 29 (nI 0)) 412 0 = nI 1 := by rw [si_ne (by omega), si_at]
  have a29 : h_iv (h_si (h_si h 412 0 (nI 1)) 412 29 (nI 0)) 412 29 = nI 0 := si_at
  have F2 : Fx (fun o k => o = 412 ∧ (k = 0 ∨ k = 29)) h (h_si (h_si h 412 0 (nI 1)) 412 29 (nI 0)) := (Fx.si (A := fun o k => o = 412 ∧ (k = 0 ∨ k = 29)) ⟨rfl, Or.inl rfl⟩).trans (Fx.si ⟨rfl, Or.inr rfl⟩)
  generalize hK : (fun (_ : Int32) (h2 : aH) => Fx (fun o k => o = 412 ∧ (k = 0 ∨ k = 29)) h h2 ∧ h_iv h2 412 29 = nI 0 ∧ h_iv h2 412 0 = nI 1) = K
  simp (maxSteps := 3000000) (disch := first | assumption | omega) only [m_X12_find, bO_v, bR_v, bX_l, bX_r, bC_l, bC_r, aJ_v, aLet_v, nI_add, pk_mul, dvI_n, rmI_n, iMax_n, iMin_n, zO_0, zO_1, li_0, li_1, li_2, li_3, li_4, li_5, li_6, li_7, li_8, li_9, li_10, li_12, li_14, li_15, li_16, li_18, li_19, li_20, li_22, li_23, li_24, li_26, li_29, li_30, li_31, li_32, li_36, li_38, li_48, li_50, li_57, li_58, li_59, li_60, li_63, li_97, li_99, li_120, li_122, li_144, li_168, li_194, li_240, li_255, li_284, li_299, li_603, li_999, li_1200, li_1440, li_4095, li_4096, li_6030, li_16384, li_20160, zl0, zl1, zl2, zl3, zl4, ze01, ze02, ze03, ze04, ze10, ze12, ze13, ze14, ze20, ze21, ze23, ze24, ze30, ze31, ze32, ze34, ze40, ze41, ze42, ze43, zt0, zt1, zt2, zt3, zt4, zq0, zq1, zq2, zq3, zq4, it_t, it_f, Bool.true_eq_false, Bool.false_eq_true, na5, na4, na1441, na2, na10, sx_IOIA, sx_IOIS, sx_IONS, sx_IAIO, sx_IAIS, sx_IANS, sx_ISIO, sx_ISIA, sx_ISNS, sx_NSIO, sx_NSIA, sx_NSIS, nin, z, r_cM_pi hS]
  refine y_findL S1 X1 _ (fun o => OK o K) ?_
  simp (maxSteps := 3000000) (disch := first | assumption | omega) only [bO_v, bR_v, bX_l, bX_r, bC_l, bC_r, aJ_v, aLet_v, nI_add, pk_mul, dvI_n, rmI_n, iMax_n, iMin_n, zO_0, zO_1, li_0, li_1, li_2, li_3, li_4, li_5, li_6, li_7, li_8, li_9, li_10, li_12, li_14, li_15, li_16, li_18, li_19, li_20, li_22, li_23, li_24, li_26, li_29, li_30, li_31, li_32, li_36, li_38, li_48, li_50, li_57, li_58, li_59, li_60, li_63, li_97, li_99, li_120, li_122, li_144, li_168, li_194, li_240, li_255, li_284, li_299, li_603, li_999, li_1200, li_1440, li_4095, li_4096, li_6030, li_16384, li_20160, zl0, zl1, zl2, zl3, zl4, ze01, ze02, ze03, ze04, ze10, ze12, ze13, ze14, ze20, ze21, ze23, ze24, ze30, ze31, ze32, ze34, ze40, ze41, ze42, ze43, zt0, zt1, zt2, zt3, zt4, zq0, zq1, zq2, zq3, zq4, it_t, it_f, Bool.true_eq_false, Bool.false_eq_true, na5, na4, na1441, na2, na10, sx_IOIA, sx_IOIS, sx_IONS, sx_IAIO, sx_IAIS, sx_IANS, sx_ISIO, sx_ISIA, sx_ISNS, sx_NSIO, sx_NSIA, sx_NSIS, r_cM_pi S1, r_cM_gi S2, a0, z2]
  rw [← hK]
  exact ok_ret ⟨F2, a29, a0⟩
theorem fd_mk (I : IV h T P Q) (Sg : Sh g) (giv : ∀ o k, ¬ (o = 1 ∧ k = 1) → h_iv g o k = h_iv h o k) (g11 : h_iv g 1 1 = nI 0) (glv : ∀ o k, o ≠ 462 → h_lv g o k = h_lv h o k) (grv : h_rv g = h_rv h) (gn : h_nx g ≤ h_nx h + 2) (gs : h_sl g ≤ h_sl h + 24) {x : Option (Int32 × aH)} {y : aH → Option (Int32 × aH)} {k : Nat} {v : Int32} (hk : k < 5) (eL : x = some (nI k, g)) (out : k = 0 → h_lv g 462 0 = v.toInt64)
    (eR : OK (y g) (fun w g2 => Fx (fun o k => o = 412 ∧ (k = 0 ∨ k = 29)) g g2 ∧ h_iv g2 412 29 = nI 0 ∧ h_iv g2 412 0 = nI k ∧ (k = 0 → w = v))) : QG h x y := by
  obtain ⟨w, g2, e2, F, a29, a0, hw⟩ := eR
  have qp := pl_in P I.hP
  have iv : ∀ o k, ¬ (o = 412 ∧ (k = 0 ∨ k = 29)) → ¬ (o = 1 ∧ k = 1) → h_iv g2 o k = h_iv h o k := fun o k q1 q2 => (F.iv q1).trans (giv o k q2)
  have eT : ∀ o k, ¬ (o = 412 ∧ k = 29) → (if o = 412 ∧ k = 29 then 0 else T o k) = T o k := fun o k q => if_neg q
  have I2 : IV g2 (fun o k => if o = 412 ∧ k = 29 then 0 else T o k) P Q := by
    refine I.txt (F.sh Sg) (fun o q1 q2 => funext fun k => eT o k (by omega)) (fun k q1 q2 => eT _ _ (by omega)) ⟨fun o k r => ?_, fun o k => ?_⟩ (by rw [F.2.2.2.2.1, grv]; exact I.pl) (by rw [F.2.2.2.2.1, grv]; exact I.sp) (fun o q1 => funext fun k => iv o k (by omega) (by omega)) (fun o k _ => by rw [F.2.2.2.2.1, grv]) (fun o k q1 => (congrFun (congrFun F.2.2.2.2.2.1 o) k).trans (glv o k (by omega))) ⟨?_, ?_, fun k hk => ?_⟩ ⟨?_, ?_⟩ (fun o k q1 q2 q3 => by rw [iv o k (by omega) (by omega)]; exact I.jn o k q1 q2 q3)
    · dsimp only
      by_cases c1 : o = 412 ∧ k = 29
      · rw [if_pos c1, c1.1, c1.2]; exact a29
      · rw [if_neg c1, iv o k (by unfold rfC at r; omega) (by unfold rfC at r; omega)]
        exact I.z.1 o k r
    · show (if o = 412 ∧ k = 29 then 0 else T o k) < 2147483648
      split
      · omega
      · exact I.z.2 o k
    · rw [if_pos ⟨rfl, rfl⟩, F.iv (by omega)]; exact g11
    · rw [if_pos ⟨rfl, rfl⟩]; omega
    · rw [if_pos ⟨rfl, rfl⟩] at hk
      exact absurd hk (Nat.not_lt_zero k)
    · rw [iv 3 9 (by omega) (by omega), iv 412 31 (by omega) (by omega)]; exact I.er.1
    · rw [iv 3 10 (by omega) (by omega), iv 412 32 (by omega) (by omega)]; exact I.er.2
  refine ⟨k, v, hk, _, g, eL, rfl, out, w, g2, e2, hw, a0, by rw [F.2.2.2.2.2.1], ⟨_, P, Q, I2⟩, ?_, ?_⟩
  · rw [F.1]; exact gn
  · rw [F.2.1]; exact gs
theorem sL_ne9 {o k : Nat} {y : Int64} {v : Int32} (q : ¬ (o = 462 ∧ k = 0)) : h_lv (h_sL (h_si h 1 1 v) 462 0 y) o k = h_lv h o k := u2n q
theorem m1_ne {k : Nat} (hk : k < 1000) : ¬ nI k = -nI 1 := fun q => ne_m1 hk (by rw [q]; exact m1_lt)
theorem q_find (I : IV h T P Q) (x : Int32) : QG h (m_L_find 1 x 462 h) (m_X12_find 412 x) := by
  have hS := I.sh
  have hP := I.hP
  have hD := I.D
  have qp := pl_in P hP
  have t2 := I.tx.2.1
  have X : TX (T 435) (T 412 29) h := ⟨I.tx.2.1, fun k hk => I.tx.2.2 k hk⟩
  have XR : ∀ g, (∀ o k, ¬ (o = 1 ∧ k = 1) → h_iv g o k = h_iv h o k) → TR (T 435) (T 412 29) g := fun g e => ⟨I.tx.2.1, (e _ _ (by omega)).trans I.z.f29, fun k hk => ⟨(I.tx.2.2 k hk).1, (e _ _ (by omega)).trans (I.z.c435 k)⟩⟩
  have kw := k_whole hS X
  have S1 := hS.si 1 1 (nI 0)
  have iv1 : ∀ o k, ¬ (o = 1 ∧ k = 1) → h_iv (h_si h 1 1 (nI 0)) o k = h_iv h o k := fun o k q => si_ne (by omega)
  have g3 : gr (h_si h 1 1 (nI 0)) 11 1 3 = some P := gr_ok9 (c_cX S1) I.pl (pl_ne0 P hP)
  have xS : ("java/util/NoSuchElementException" = "java/util/NoSuchElementException") = True := eq_self _
  have xI : ("java/lang/IllegalArgumentException" = "java/lang/IllegalArgumentException") = True := eq_self _
  have m11 : ((-1 : Int64) = -1) = True := eq_self _
  have i11 : (-nI 1 = -nI 1) = True := eq_self _
  have Se : Sh (h_exc (h_si h 1 1 (nI 0))) := QF.exc.sh S1
  have nxe : h_nx (h_exc (h_si h 1 1 (nI 0))) ≤ h_nx h + 2 := show h_nx h + 1 ≤ h_nx h + 2 by omega
  have sle : h_sl (h_exc (h_si h 1 1 (nI 0))) ≤ h_sl h + 24 := show h_sl h + 6 ≤ h_sl h + 24 by omega
  cases c : inr x 4
  · refine fd_mk I Se iv1 si_at (fun _ _ _ => rfl) rfl nxe sle (k := 1) (v := 0) (by decide) ?_ (fun q => absurd q (by decide)) ?_
    · simp (maxSteps := 3000000) (disch := first | assumption | omega) only [m_L_find, m_X11_find, bO_v, bR_v, bX_l, bX_r, bC_l, bC_r, aJ_v, aLet_v, nI_add, pk_mul, dvI_n, rmI_n, iMax_n, iMin_n, zO_0, zO_1, li_0, li_1, li_2, li_3, li_4, li_5, li_6, li_7, li_8, li_9, li_10, li_12, li_14, li_15, li_16, li_18, li_19, li_20, li_22, li_23, li_24, li_26, li_29, li_30, li_31, li_32, li_36, li_38, li_48, li_50, li_57, li_58, li_59, li_60, li_63, li_97, li_99, li_120, li_122, li_144, li_168, li_194, li_240, li_255, li_284, li_299, li_603, li_999, li_1200, li_1440, li_4095, li_4096, li_6030, li_16384, li_20160, zl0, zl1, zl2, zl3, zl4, ze01, ze02, ze03, ze04, ze10, ze12, ze13, ze14, ze20, ze21, ze23, ze24, ze30, ze31, ze32, ze34, ze40, ze41, ze42, ze43, zt0, zt1, zt2, zt3, zt4, zq0, zq1, zq2, zq3, zq4, it_t, it_f, Bool.true_eq_false, Bool.false_eq_true, na5, na4, na1441, na2, na10, sx_IOIA, sx_IOIS, sx_IONS, sx_IAIO, sx_IAIS, sx_IANS, sx_ISIO, sx_ISIA, sx_ISNS, sx_NSIO, sx_NSIA, sx_NSIS, c_cX_gS hS, c_prd hS, c_cX_gi hS, I.tx.1, c_cR_gS hS, kw, c_cX_pi hS, ndle, c, xI]
    · obtain ⟨w, g2, e2, F, a29, a0⟩ := y_find1 Se (XR _ iv1) c
      exact ⟨w, g2, e2, F, a29, a0, fun q => absurd q (by decide)⟩
  · obtain ⟨so, hso, rfl⟩ := inr_t c (by omega)
    generalize hcnt : nmN T so = cnt
    have d0 := hD.nP
    have d1 := hD.nG
    have d2 := hD.nE
    have d3 := hD.nK
    have hc : cnt ≤ (if so = 0 then 12 else if so = 2 then 5 else 6) ∧ nmB so + cnt ≤ 29 := by
      rcases (show so = 0 ∨ so = 1 ∨ so = 2 ∨ so = 3 by omega) with r | r | r | r <;> subst r
      · have e : T 412 8 = cnt := hcnt
        exact ⟨show cnt ≤ 12 by omega, show 0 + cnt ≤ 29 by omega⟩
      · have e : T 412 9 = cnt := hcnt
        exact ⟨show cnt ≤ 6 by omega, show 12 + cnt ≤ 29 by omega⟩
      · have e : T 412 10 = cnt := hcnt
        exact ⟨show cnt ≤ 5 by omega, show 18 + cnt ≤ 29 by omega⟩
      · have e : T 412 11 = cnt := hcnt
        exact ⟨show cnt ≤ 6 by omega, show 23 + cnt ≤ 29 by omega⟩
    have c12 : cnt ≤ 29 := by omega
    have ecP : h_iv (h_si h 1 1 (nI 0)) P (if so = 0 then 1 else if so = 1 then 5 else if so = 2 then 7 else 9) = nI cnt := by
      rw [iv1 _ _ (by omega), ← hcnt]
      rcases (show so = 0 ∨ so = 1 ∨ so = 2 ∨ so = 3 by omega) with r | r | r | r <;> subst r
      · exact I.y.nP
      · exact I.y.nG
      · exact I.y.nE
      · exact I.y.nK
    have ecR : h_iv h 412 (8 + so) = nI cnt := by
      rw [← hcnt]
      rcases (show so = 0 ∨ so = 1 ∨ so = 2 ∨ so = 3 by omega) with r | r | r | r <;> subst r
      · exact I.z.f8
      · exact I.z.f9
      · exact I.z.f10
      · exact I.z.f11
    obtain ⟨W, L, hW⟩ := I.nm.1
    have hW' : ∀ i, i < cnt → okW (W (nmB so + i)) (L (nmB so + i)) ∧ h_lv h (nmO P so i) 0 = lN (enc 32 (W (nmB so + i)) (L (nmB so + i))) ∧ h_lv h 419 (nmB so + i) = lN (enc 27 (W (nmB so + i)) (L (nmB so + i))) := fun i hi => hW so i hso (by omega)
    have bd : ∀ {b : Nat} {f : Nat → Nat} {l : Nat}, 27 ≤ b → b ≤ 32 → l ≤ 8 → (∀ k, k < l → f k ≤ 26) → enc b f l < 1099511627776 := fun {b f l} q1 q2 q3 q4 => by
      have a1 := enc_lt q1 (f := f) (n := l) q4
      have a2 : b ^ l ≤ 32 ^ l := Nat.pow_le_pow_left q2 l
      have a3 : 32 ^ l ≤ 32 ^ 8 := Nat.pow_le_pow_right (by decide) q3
      have a4 : (32 : Nat) ^ 8 = 1099511627776 := by decide
      omega
    have num := k_numOf S1 hP hso hc.1 ecP (if whN (T 435) (T 412 29) = true then lN (enc 32 (wd (T 435) 0) (T 412 29)) else -1)
    cases cw : whN (T 435) (T 412 29)
    · -- no name: found nowhere
      have nf : ¬ fo27 h (nmB so) cnt (rvN (T 435) (T 412 29)) < cnt := by
        refine fst_nlt (fun i hi => decide_eq_false (fun q => ?_))
        obtain ⟨⟨w1, w2, w3⟩, -, w5⟩ := hW' i hi
        have b1 := bd (b := 27) (f := W (nmB so + i)) (l := L (nmB so + i)) (by omega) (by omega) w2 (fun k hk => (w3 k hk).2)
        rw [w5] at q
        unfold rvN at q
        by_cases cc : T 412 29 ≤ wle (T 435) (T 412 29) 0 ∧ T 412 29 ≤ 8
        · rw [if_pos cc] at q
          have wl : wle (T 435) (T 412 29) 0 ≤ T 412 29 - 0 := run_le
          have e0 : T 412 29 = 0 := by
            have := of_decide_eq_false cw
            omega
          rw [e0] at q
          have e1 := (fb_lN_inj (by omega) (by show (0 : Nat) < 2 ^ 63; decide)).mp q
          obtain ⟨l, el⟩ : ∃ l, L (nmB so + i) = l + 1 := ⟨L (nmB so + i) - 1, by omega⟩
          rw [el, enc, enc] at e1
          have := w3 l (by omega)
          omega
        · rw [if_neg cc] at q
          exact lN_ne1 b1 q
      have wf : (false = true) = False := Bool.false_eq_true
      refine fd_mk I Se iv1 si_at (fun _ _ _ => rfl) rfl nxe sle (k := 2) (v := 0) (by decide) ?_ (fun q => absurd q (by decide)) ?_
      · rw [cw, if_neg (by decide)] at kw
        simp (maxSteps := 3000000) (disch := first | assumption | omega) only [m_L_find, m_X11_find, bO_v, bR_v, bX_l, bX_r, bC_l, bC_r, aJ_v, aLet_v, nI_add, pk_mul, dvI_n, rmI_n, iMax_n, iMin_n, zO_0, zO_1, li_0, li_1, li_2, li_3, li_4, li_5, li_6, li_7, li_8, li_9, li_10, li_12, li_14, li_15, li_16, li_18, li_19, li_20, li_22, li_23, li_24, li_26, li_29, li_30, li_31, li_32, li_36, li_38, li_48, li_50, li_57, li_58, li_59, li_60, li_63, li_97, li_99, li_120, li_122, li_144, li_168, li_194, li_240, li_255, li_284, li_299, li_603, li_999, li_1200, li_1440, li_4095, li_4096, li_6030, li_16384, li_20160, zl0, zl1, zl2, zl3, zl4, ze01, ze02, ze03, ze04, ze10, ze12, ze13, ze14, ze20, ze21, ze23, ze24, ze30, ze31, ze32, ze34, ze40, ze41, ze42, ze43, zt0, zt1, zt2, zt3, zt4, zq0, zq1, zq2, zq3, zq4, it_t, it_f, Bool.true_eq_false, Bool.false_eq_true, na5, na4, na1441, na2, na10, sx_IOIA, sx_IOIS, sx_IONS, sx_IAIO, sx_IAIS, sx_IANS, sx_ISIO, sx_ISIA, sx_ISNS, sx_NSIO, sx_NSIA, sx_NSIS, c_cX_gS hS, c_prd hS, c_cX_gi hS, I.tx.1, c_cR_gS hS, kw, c_cX_pi hS, ndle, c, lgc_eqn, m11, i11, xS]
      · obtain ⟨w, g2, e2, F, a29, f1, f2⟩ := y_find4 Se (XR _ iv1) hso hc.2 ((iv1 _ _ (by omega)).trans ecR)
        exact ⟨w, g2, e2, F, a29, f2 nf, fun q => absurd q (by decide)⟩
    · obtain ⟨q1, q2, q3⟩ := of_decide_eq_true cw
      have win : ∀ k, k < T 412 29 → 1 ≤ wd (T 435) 0 k ∧ wd (T 435) 0 k ≤ 26 := fun k hk => wd_in (n := T 412 29) (by omega)
      have b32 := bd (b := 32) (f := wd (T 435) 0) (l := T 412 29) (by omega) (by omega) q3 (fun k hk => (win k hk).2)
      have b27 := bd (b := 27) (f := wd (T 435) 0) (l := T 412 29) (by omega) (by omega) q3 (fun k hk => (win k hk).2)
      have ne1 := lN_ne1 b32
      have er : rvN (T 435) (T 412 29) = lN (enc 27 (wd (T 435) 0) (T 412 29)) := by unfold rvN; rw [if_pos ⟨by omega, q3⟩]
      have ef : fa_first (fun i => decide (h_lv (h_si h 1 1 (nI 0)) (nmO P so i) 0 = lN (enc 32 (wd (T 435) 0) (T 412 29)))) cnt = fo27 h (nmB so) cnt (rvN (T 435) (T 412 29)) := by
        refine fst_cong (fun i hi => decide_eq_decide.mpr ?_)
        obtain ⟨⟨w1, w2, w3⟩, w4, w5⟩ := hW' i hi
        have v1 := bd (b := 27) (f := W (nmB so + i)) (l := L (nmB so + i)) (by omega) (by omega) w2 (fun k hk => (w3 k hk).2)
        have v2 := bd (b := 32) (f := W (nmB so + i)) (l := L (nmB so + i)) (by omega) (by omega) w2 (fun k hk => (w3 k hk).2)
        rw [er, w5]
        have w4' : h_lv (h_si h 1 1 (nI 0)) (nmO P so i) 0 = lN (enc 32 (W (nmB so + i)) (L (nmB so + i))) := w4
        rw [w4', fb_lN_inj (by omega) (by omega), fb_lN_inj (by omega) (by omega)]
        constructor
        · intro e
          obtain ⟨e1, e2⟩ := enc_inj (b := 32) (by omega) w3 win e
          rw [← e1]
          exact enc_cong e2
        · intro e
          obtain ⟨e1, e2⟩ := enc_inj (b := 27) (by omega) w3 win e
          rw [← e1]
          exact enc_cong e2
      rw [cw, if_pos rfl] at kw
      rw [cw, if_pos rfl, ef] at num
      by_cases lt : fo27 h (nmB so) cnt (rvN (T 435) (T 412 29)) < cnt
      · rw [if_pos lt] at num
        have m1 := m1_ne (k := fo27 h (nmB so) cnt (rvN (T 435) (T 412 29))) (by omega)
        have Sr : Sh (h_sL (h_si h 1 1 (nI 0)) 462 0 (nI (fo27 h (nmB so) cnt (rvN (T 435) (T 412 29)))).toInt64) := S1.sL _ _ _
        refine fd_mk I Sr iv1 (show h_iv (h_si h 1 1 (nI 0)) 1 1 = nI 0 from si_at) (fun o k q => sL_ne9 (by omega)) rfl (show h_nx h ≤ h_nx h + 2 by omega) (show h_sl h ≤ h_sl h + 24 by omega) (k := 0) (v := nI (fo27 h (nmB so) cnt (rvN (T 435) (T 412 29)))) (by decide) ?_ (fun _ => sL_at) ?_
        · simp (maxSteps := 3000000) (disch := first | assumption | omega) only [m_L_find, m_X11_find, bO_v, bR_v, bX_l, bX_r, bC_l, bC_r, aJ_v, aLet_v, nI_add, pk_mul, dvI_n, rmI_n, iMax_n, iMin_n, zO_0, zO_1, li_0, li_1, li_2, li_3, li_4, li_5, li_6, li_7, li_8, li_9, li_10, li_12, li_14, li_15, li_16, li_18, li_19, li_20, li_22, li_23, li_24, li_26, li_29, li_30, li_31, li_32, li_36, li_38, li_48, li_50, li_57, li_58, li_59, li_60, li_63, li_97, li_99, li_120, li_122, li_144, li_168, li_194, li_240, li_255, li_284, li_299, li_603, li_999, li_1200, li_1440, li_4095, li_4096, li_6030, li_16384, li_20160, zl0, zl1, zl2, zl3, zl4, ze01, ze02, ze03, ze04, ze10, ze12, ze13, ze14, ze20, ze21, ze23, ze24, ze30, ze31, ze32, ze34, ze40, ze41, ze42, ze43, zt0, zt1, zt2, zt3, zt4, zq0, zq1, zq2, zq3, zq4, it_t, it_f, Bool.true_eq_false, Bool.false_eq_true, na5, na4, na1441, na2, na10, sx_IOIA, sx_IOIS, sx_IONS, sx_IAIO, sx_IAIS, sx_IANS, sx_ISIO, sx_ISIA, sx_ISNS, sx_NSIO, sx_NSIA, sx_NSIS, c_cX_gS hS, c_prd hS, c_cX_gi hS, I.tx.1, c_cR_gS hS, kw, c_cX_pi hS, ndle, c, lgc_eqn, if_neg ne1, g3, p_cP_gS S1 hP, num, if_neg m1, c_co_as S1]
        · obtain ⟨w, g2, e2, F, a29, f1, f2⟩ := y_find4 Sr (XR _ iv1) hso hc.2 ((iv1 _ _ (by omega)).trans ecR)
          have ev : fo27 (h_sL (h_si h 1 1 (nI 0)) 462 0 (nI (fo27 h (nmB so) cnt (rvN (T 435) (T 412 29)))).toInt64) (nmB so) cnt (rvN (T 435) (T 412 29)) = fo27 h (nmB so) cnt (rvN (T 435) (T 412 29)) := fst_cong (fun i hi => by
            have : h_lv (h_sL (h_si h 1 1 (nI 0)) 462 0 (nI (fo27 h (nmB so) cnt (rvN (T 435) (T 412 29)))).toInt64) 419 (nmB so + i) = h_lv h 419 (nmB so + i) := sL_ne9 (by omega)
            rw [this])
          rw [ev] at f1
          exact ⟨w, g2, e2, F, a29, (f1 lt).2, fun _ => (f1 lt).1⟩
      · rw [if_neg lt] at num
        refine fd_mk I Se iv1 si_at (fun _ _ _ => rfl) rfl nxe sle (k := 2) (v := 0) (by decide) ?_ (fun q => absurd q (by decide)) ?_
        · simp (maxSteps := 3000000) (disch := first | assumption | omega) only [m_L_find, m_X11_find, bO_v, bR_v, bX_l, bX_r, bC_l, bC_r, aJ_v, aLet_v, nI_add, pk_mul, dvI_n, rmI_n, iMax_n, iMin_n, zO_0, zO_1, li_0, li_1, li_2, li_3, li_4, li_5, li_6, li_7, li_8, li_9, li_10, li_12, li_14, li_15, li_16, li_18, li_19, li_20, li_22, li_23, li_24, li_26, li_29, li_30, li_31, li_32, li_36, li_38, li_48, li_50, li_57, li_58, li_59, li_60, li_63, li_97, li_99, li_120, li_122, li_144, li_168, li_194, li_240, li_255, li_284, li_299, li_603, li_999, li_1200, li_1440, li_4095, li_4096, li_6030, li_16384, li_20160, zl0, zl1, zl2, zl3, zl4, ze01, ze02, ze03, ze04, ze10, ze12, ze13, ze14, ze20, ze21, ze23, ze24, ze30, ze31, ze32, ze34, ze40, ze41, ze42, ze43, zt0, zt1, zt2, zt3, zt4, zq0, zq1, zq2, zq3, zq4, it_t, it_f, Bool.true_eq_false, Bool.false_eq_true, na5, na4, na1441, na2, na10, sx_IOIA, sx_IOIS, sx_IONS, sx_IAIO, sx_IAIS, sx_IANS, sx_ISIO, sx_ISIA, sx_ISNS, sx_NSIO, sx_NSIA, sx_NSIS, c_cX_gS hS, c_prd hS, c_cX_gi hS, I.tx.1, c_cR_gS hS, kw, c_cX_pi hS, ndle, c, lgc_eqn, if_neg ne1, g3, p_cP_gS S1 hP, num, i11, xS]
        · obtain ⟨w, g2, e2, F, a29, f1, f2⟩ := y_find4 Se (XR _ iv1) hso hc.2 ((iv1 _ _ (by omega)).trans ecR)
          exact ⟨w, g2, e2, F, a29, f2 lt, fun q => absurd q (by decide)⟩
end
