/-! find -/
theorem fst_is {q : Nat → Bool} {c i : Nat} (hi : i < c) (h1 : q i = true) (h2 : ∀ j, j < i → q j = false) : fa_first q c = i := by
  rcases Nat.lt_trichotomy (fa_first q c) i with k | k | k
  · have := fa_first_yes q c (by omega)
    rw [h2 _ k] at this; cases this
  · exact k
  · have := fa_first_no q c i k
    rw [h1] at this; cases this
section
variable {h g : aH} {T : Nat → Nat → Nat} {P Q : Nat} {tx : Nat → Nat} {n : Nat}
theorem k_nameW (hS : Sh h) (X : TX tx n h) (all : wle tx n 0 = n) : m_X9_nameIn 3 (nI 0) (nI n) h = some (if n ≤ 8 then lN (enc 32 (wd tx 0) n) else -1, h) := by
  have x1 := X.1
  have sub : nI n - nI 0 = nI n := by rw [pk_sub (by omega), Nat.sub_zero]
  simp (maxSteps := 3000000) (disch := first | assumption | omega) only [m_X9_nameIn, bO_v, bR_v, bX_l, bX_r, bC_l, bC_r, aLet_v, nI_add, pk_mul, dvI_n, rmI_n, iMax_n, iMin_n, zO_0, zO_1, li_0, li_1, li_2, li_3, li_4, li_5, li_6, li_7, li_8, li_9, li_10, li_12, li_14, li_15, li_16, li_18, li_19, li_20, li_22, li_23, li_24, li_26, li_29, li_30, li_31, li_32, li_36, li_38, li_48, li_50, li_57, li_58, li_59, li_60, li_63, li_97, li_99, li_120, li_122, li_144, li_168, li_194, li_240, li_255, li_284, li_299, li_603, li_999, li_1200, li_1440, li_4095, li_4096, li_6030, li_16384, li_20160, zl0, zl1, zl2, zl3, zl4, ze01, ze02, ze03, ze04, ze10, ze12, ze13, ze14, ze20, ze21, ze23, ze24, ze30, ze31, ze32, ze34, ze40, ze41, ze42, ze43, zt0, zt1, zt2, zt3, zt4, zq0, zq1, zq2, zq3, zq4, it_t, it_f, Bool.true_eq_false, Bool.false_eq_true, na5, na4, na1441, na2, na10, sx_IOIA, sx_IOIS, sx_IONS, sx_IAIO, sx_IAIS, sx_IANS, sx_ISIO, sx_ISIA, sx_ISNS, sx_NSIO, sx_NSIA, sx_NSIS, sub, nI_leI, aJ_v]
  by_cases c8 : n ≤ 8
  · rw [if_pos c8, if_pos c8]
    refine aL2_run (R := fun o => o = some (lN (enc 32 (wd tx 0) n), h)) (fun m s1 s2 g => g = h ∧ ∃ j, j ≤ n ∧ m = n - j ∧ s2 = nI (0 + j) ∧ s1 = lN (enc 32 (wd tx 0) j)) ⟨rfl, 0, Nat.zero_le _, rfl, rfl, rfl⟩ (by omega) ?_
    rintro rec m s1 s2 g ⟨rfl, j, hj, rfl, rfl, rfl⟩ ih
    by_cases hlt : j < n
    · obtain ⟨c9, tb⟩ := X.2 (0 + j) (by omega)
      have lt := of_decide_eq_true (run_in (tx := tx) (q := isLt) (n := n) (p := 0) (k := j) (by unfold wle at all; omega))
      rw [byt_n (by omega)] at tb
      have w1 := wd_in (tx := tx) (n := n) (s := 0) (k := j) (by omega)
      have wdv : nI (tx (0 + j)) - nI 97 + nI 1 = nI (wd tx 0 j) := by
        rw [pk_sub (by omega), nI_add]
        unfold wd
        congr 1
        omega
      have el := enc_lt (b := 32) (by omega) (f := wd tx 0) (n := j) (fun k hk => wd_le (n := n) (m := n) (by omega) (by omega))
      have ep : 32 ^ j ≤ 32 ^ 8 := Nat.pow_le_pow_right (by decide) (by omega)
      have e8 : (32 : Nat) ^ 8 = 1099511627776 := by decide
      have st : lShl (lN (enc 32 (wd tx 0) j)) (nI 5) ||| (nI (wd tx 0 j)).toInt64 = lN (enc 32 (wd tx 0) (j + 1)) := by
        unfold lShl
        have p5 : (2 : Nat) ^ 5 = 32 := by decide
        have e1 : lN (enc 32 (wd tx 0) j * 2 ^ 5) ||| lN (wd tx 0 j) = lN (enc 32 (wd tx 0) j * 2 ^ 5 + wd tx 0 j) := g_or (k := 5) rfl (by omega) (by omega)
        rw [wb_shl _ (by omega), wide_n (by omega), e1, enc, p5, Nat.mul_comm]
      simp (maxSteps := 3000000) (disch := first | assumption | omega) only [m_X9_nameIn_L17, bO_v, bR_v, bX_l, bX_r, bC_l, bC_r, aLet_v, nI_add, pk_mul, dvI_n, rmI_n, iMax_n, iMin_n, zO_0, zO_1, li_0, li_1, li_2, li_3, li_4, li_5, li_6, li_7, li_8, li_9, li_10, li_12, li_14, li_15, li_16, li_18, li_19, li_20, li_22, li_23, li_24, li_26, li_29, li_30, li_31, li_32, li_36, li_38, li_48, li_50, li_57, li_58, li_59, li_60, li_63, li_97, li_99, li_120, li_122, li_144, li_168, li_194, li_240, li_255, li_284, li_299, li_603, li_999, li_1200, li_1440, li_4095, li_4096, li_6030, li_16384, li_20160, zl0, zl1, zl2, zl3, zl4, ze01, ze02, ze03, ze04, ze10, ze12, ze13, ze14, ze20, ze21, ze23, ze24, ze30, ze31, ze32, ze34, ze40, ze41, ze42, ze43, zt0, zt1, zt2, zt3, zt4, zq0, zq1, zq2, zq3, zq4, it_t, it_f, Bool.true_eq_false, Bool.false_eq_true, na5, na4, na1441, na2, na10, sx_IOIA, sx_IOIS, sx_IONS, sx_IAIO, sx_IAIS, sx_IANS, sx_ISIO, sx_ISIA, sx_ISNS, sx_NSIO, sx_NSIA, sx_NSIS, nI_ltI, c_prtxt hS, c_ctxt_al hS, tb, wdv]
      rw [if_pos (by omega), st]
      exact ih _ _ _ _ (by omega) ⟨rfl, j + 1, hlt, rfl, rfl, rfl⟩
    · obtain rfl : j = n := by omega
      simp (maxSteps := 3000000) (disch := first | assumption | omega) only [m_X9_nameIn_L17, bO_v, bR_v, bX_l, bX_r, bC_l, bC_r, aLet_v, nI_add, pk_mul, dvI_n, rmI_n, iMax_n, iMin_n, zO_0, zO_1, li_0, li_1, li_2, li_3, li_4, li_5, li_6, li_7, li_8, li_9, li_10, li_12, li_14, li_15, li_16, li_18, li_19, li_20, li_22, li_23, li_24, li_26, li_29, li_30, li_31, li_32, li_36, li_38, li_48, li_50, li_57, li_58, li_59, li_60, li_63, li_97, li_99, li_120, li_122, li_144, li_168, li_194, li_240, li_255, li_284, li_299, li_603, li_999, li_1200, li_1440, li_4095, li_4096, li_6030, li_16384, li_20160, zl0, zl1, zl2, zl3, zl4, ze01, ze02, ze03, ze04, ze10, ze12, ze13, ze14, ze20, ze21, ze23, ze24, ze30, ze31, ze32, ze34, ze40, ze41, ze42, ze43, zt0, zt1, zt2, zt3, zt4, zq0, zq1, zq2, zq3, zq4, it_t, it_f, Bool.true_eq_false, Bool.false_eq_true, na5, na4, na1441, na2, na10, sx_IOIA, sx_IOIS, sx_IONS, sx_IAIO, sx_IAIS, sx_IANS, sx_ISIO, sx_ISIA, sx_ISNS, sx_NSIO, sx_NSIA, sx_NSIS, nI_ltI]
      rw [if_neg (by omega)]
  · rw [if_neg c8, if_neg c8]
/-- the text is one name -/
def whN (tx : Nat → Nat) (n : Nat) : Bool := decide (1 ≤ n ∧ wle tx n 0 = n ∧ n ≤ 8)
theorem k_whole (hS : Sh h) (X : TX tx n h) : m_X9_wholeAsName 3 (nI n) h = some (if whN tx n = true then lN (enc 32 (wd tx 0) n) else -1, h) := by
  have x1 := X.1
  have wl : wle tx n 0 ≤ n - 0 := run_le
  simp (maxSteps := 3000000) (disch := first | assumption | omega) only [m_X9_wholeAsName, bO_v, bR_v, bX_l, bX_r, bC_l, bC_r, aLet_v, nI_add, pk_mul, dvI_n, rmI_n, iMax_n, iMin_n, zO_0, zO_1, li_0, li_1, li_2, li_3, li_4, li_5, li_6, li_7, li_8, li_9, li_10, li_12, li_14, li_15, li_16, li_18, li_19, li_20, li_22, li_23, li_24, li_26, li_29, li_30, li_31, li_32, li_36, li_38, li_48, li_50, li_57, li_58, li_59, li_60, li_63, li_97, li_99, li_120, li_122, li_144, li_168, li_194, li_240, li_255, li_284, li_299, li_603, li_999, li_1200, li_1440, li_4095, li_4096, li_6030, li_16384, li_20160, zl0, zl1, zl2, zl3, zl4, ze01, ze02, ze03, ze04, ze10, ze12, ze13, ze14, ze20, ze21, ze23, ze24, ze30, ze31, ze32, ze34, ze40, ze41, ze42, ze43, zt0, zt1, zt2, zt3, zt4, zq0, zq1, zq2, zq3, zq4, it_t, it_f, Bool.true_eq_false, Bool.false_eq_true, na5, na4, na1441, na2, na10, sx_IOIA, sx_IOIS, sx_IONS, sx_IAIO, sx_IAIS, sx_IANS, sx_ISIO, sx_ISIA, sx_ISNS, sx_NSIO, sx_NSIA, sx_NSIS]
  refine aJ_gen (R := fun o => o = some (if whN tx n = true then lN (enc 32 (wd tx 0) n) else -1, h)) (fun k38 hk38 => ?_)
  refine aJ_gen (R := fun o => o = some (if whN tx n = true then lN (enc 32 (wd tx 0) n) else -1, h)) (fun k28 hk28 => ?_)
  refine aL1_run (R := fun o => o = some (if whN tx n = true then lN (enc 32 (wd tx 0) n) else -1, h)) (fun m s1 g => g = h ∧ ∃ j, j ≤ wle tx n 0 ∧ m = wle tx n 0 - j ∧ s1 = nI j) ⟨rfl, 0, Nat.zero_le _, rfl, rfl⟩ (by omega) ?_
  rintro rec m s1 g ⟨rfl, j, hj, rfl, rfl⟩ ih
  by_cases hlt : j < n
  · obtain ⟨c9, tb⟩ := X.2 j hlt
    have ra := run_at (tx := tx) (q := isLt) (n := n) (s := 0) (j := j) hj (Nat.zero_le _)
    rw [Nat.zero_add, decide_eq_true hlt, Bool.true_and] at ra
    simp (maxSteps := 3000000) (disch := first | assumption | omega) only [m_X9_wholeAsName_L2, bO_v, bR_v, bX_l, bX_r, bC_l, bC_r, aLet_v, nI_add, pk_mul, dvI_n, rmI_n, iMax_n, iMin_n, zO_0, zO_1, li_0, li_1, li_2, li_3, li_4, li_5, li_6, li_7, li_8, li_9, li_10, li_12, li_14, li_15, li_16, li_18, li_19, li_20, li_22, li_23, li_24, li_26, li_29, li_30, li_31, li_32, li_36, li_38, li_48, li_50, li_57, li_58, li_59, li_60, li_63, li_97, li_99, li_120, li_122, li_144, li_168, li_194, li_240, li_255, li_284, li_299, li_603, li_999, li_1200, li_1440, li_4095, li_4096, li_6030, li_16384, li_20160, zl0, zl1, zl2, zl3, zl4, ze01, ze02, ze03, ze04, ze10, ze12, ze13, ze14, ze20, ze21, ze23, ze24, ze30, ze31, ze32, ze34, ze40, ze41, ze42, ze43, zt0, zt1, zt2, zt3, zt4, zq0, zq1, zq2, zq3, zq4, it_t, it_f, Bool.true_eq_false, Bool.false_eq_true, na5, na4, na1441, na2, na10, sx_IOIA, sx_IOIS, sx_IONS, sx_IAIO, sx_IAIS, sx_IANS, sx_ISIO, sx_ISIA, sx_ISNS, sx_NSIO, sx_NSIA, sx_NSIS, nI_ltI, if_pos hlt, if_pos (show j < 1200 by omega), c_prtxt hS, c_ctxt_ln hS, c_ctxt_al hS, tb, k_isLt c9, ra, b2i_0, decide_eq_false_iff_not]
    by_cases c : j < run tx isLt n 0
    · rw [if_neg (fun q => q c)]
      exact ih _ _ _ (by unfold wle; omega) ⟨rfl, j + 1, c, rfl, rfl⟩
    · rw [if_pos c, hk28, if_neg (fun q => ?_)]
      have := of_decide_eq_true q
      unfold wle at this
      omega
  · obtain rfl : j = n := by omega
    have all : wle tx j 0 = j := by omega
    simp (maxSteps := 3000000) (disch := first | assumption | omega) only [m_X9_wholeAsName_L2, bO_v, bR_v, bX_l, bX_r, bC_l, bC_r, aLet_v, nI_add, pk_mul, dvI_n, rmI_n, iMax_n, iMin_n, zO_0, zO_1, li_0, li_1, li_2, li_3, li_4, li_5, li_6, li_7, li_8, li_9, li_10, li_12, li_14, li_15, li_16, li_18, li_19, li_20, li_22, li_23, li_24, li_26, li_29, li_30, li_31, li_32, li_36, li_38, li_48, li_50, li_57, li_58, li_59, li_60, li_63, li_97, li_99, li_120, li_122, li_144, li_168, li_194, li_240, li_255, li_284, li_299, li_603, li_999, li_1200, li_1440, li_4095, li_4096, li_6030, li_16384, li_20160, zl0, zl1, zl2, zl3, zl4, ze01, ze02, ze03, ze04, ze10, ze12, ze13, ze14, ze20, ze21, ze23, ze24, ze30, ze31, ze32, ze34, ze40, ze41, ze42, ze43, zt0, zt1, zt2, zt3, zt4, zq0, zq1, zq2, zq3, zq4, it_t, it_f, Bool.true_eq_false, Bool.false_eq_true, na5, na4, na1441, na2, na10, sx_IOIA, sx_IOIS, sx_IONS, sx_IAIO, sx_IAIS, sx_IANS, sx_ISIO, sx_ISIA, sx_ISNS, sx_NSIO, sx_NSIA, sx_NSIS, nI_ltI, if_neg hlt]
    rw [hk38]
    simp (maxSteps := 3000000) (disch := first | assumption | omega) only [bO_v, bR_v, bX_l, bX_r, bC_l, bC_r, aLet_v, nI_add, pk_mul, dvI_n, rmI_n, iMax_n, iMin_n, zO_0, zO_1, li_0, li_1, li_2, li_3, li_4, li_5, li_6, li_7, li_8, li_9, li_10, li_12, li_14, li_15, li_16, li_18, li_19, li_20, li_22, li_23, li_24, li_26, li_29, li_30, li_31, li_32, li_36, li_38, li_48, li_50, li_57, li_58, li_59, li_60, li_63, li_97, li_99, li_120, li_122, li_144, li_168, li_194, li_240, li_255, li_284, li_299, li_603, li_999, li_1200, li_1440, li_4095, li_4096, li_6030, li_16384, li_20160, zl0, zl1, zl2, zl3, zl4, ze01, ze02, ze03, ze04, ze10, ze12, ze13, ze14, ze20, ze21, ze23, ze24, ze30, ze31, ze32, ze34, ze40, ze41, ze42, ze43, zt0, zt1, zt2, zt3, zt4, zq0, zq1, zq2, zq3, zq4, it_t, it_f, Bool.true_eq_false, Bool.false_eq_true, na5, na4, na1441, na2, na10, sx_IOIA, sx_IOIS, sx_IONS, sx_IAIO, sx_IAIS, sx_IANS, sx_ISIO, sx_ISIA, sx_ISNS, sx_NSIO, sx_NSIA, sx_NSIS, aJ_v, nI_eq]
    by_cases c0 : j = 0
    · rw [if_pos c0, if_neg (fun q => ?_)]
      have := of_decide_eq_true q
      omega
    · rw [if_neg c0]
      have kn := k_nameW hS X all
      simp (maxSteps := 3000000) (disch := first | assumption | omega) only [bO_v, bR_v, bX_l, bX_r, bC_l, bC_r, aLet_v, nI_add, pk_mul, dvI_n, rmI_n, iMax_n, iMin_n, zO_0, zO_1, li_0, li_1, li_2, li_3, li_4, li_5, li_6, li_7, li_8, li_9, li_10, li_12, li_14, li_15, li_16, li_18, li_19, li_20, li_22, li_23, li_24, li_26, li_29, li_30, li_31, li_32, li_36, li_38, li_48, li_50, li_57, li_58, li_59, li_60, li_63, li_97, li_99, li_120, li_122, li_144, li_168, li_194, li_240, li_255, li_284, li_299, li_603, li_999, li_1200, li_1440, li_4095, li_4096, li_6030, li_16384, li_20160, zl0, zl1, zl2, zl3, zl4, ze01, ze02, ze03, ze04, ze10, ze12, ze13, ze14, ze20, ze21, ze23, ze24, ze30, ze31, ze32, ze34, ze40, ze41, ze42, ze43, zt0, zt1, zt2, zt3, zt4, zq0, zq1, zq2, zq3, zq4, it_t, it_f, Bool.true_eq_false, Bool.false_eq_true, na5, na4, na1441, na2, na10, sx_IOIA, sx_IOIS, sx_IONS, sx_IAIO, sx_IAIS, sx_IANS, sx_ISIO, sx_ISIA, sx_ISNS, sx_NSIO, sx_NSIA, sx_NSIS, c_cR_gS hS, kn]
      by_cases c8 : j ≤ 8
      · rw [if_pos c8, if_pos (show whN tx j = true from decide_eq_true ⟨by omega, all, c8⟩)]
      · rw [if_neg c8, if_neg (fun q => c8 (of_decide_eq_true q).2.2)]
/-- where a name stands among the plan's -/
theorem k_numOf (hS : Sh h) (hQ : Q ∈ plL) {so cnt : Nat} (hso : so < 4) (hc : cnt ≤ (if so = 0 then 12 else if so = 2 then 5 else 6)) (ec : h_iv h Q (if so = 0 then 1 else if so = 1 then 5 else if so = 2 then 7 else 9) = nI cnt) (v : Int64) :
    m_X8_numberOf Q (nI so) v h = some (if fa_first (fun i => decide (h_lv h (nmO Q so i) 0 = v)) cnt < cnt then nI (fa_first (fun i => decide (h_lv h (nmO Q so i) 0 = v)) cnt) else -nI 1, h) := by
  simp (maxSteps := 3000000) (disch := first | assumption | omega) only [m_X8_numberOf, bO_v, bR_v, bX_l, bX_r, bC_l, bC_r, aLet_v, nI_add, pk_mul, dvI_n, rmI_n, iMax_n, iMin_n, zO_0, zO_1, li_0, li_1, li_2, li_3, li_4, li_5, li_6, li_7, li_8, li_9, li_10, li_12, li_14, li_15, li_16, li_18, li_19, li_20, li_22, li_23, li_24, li_26, li_29, li_30, li_31, li_32, li_36, li_38, li_48, li_50, li_57, li_58, li_59, li_60, li_63, li_97, li_99, li_120, li_122, li_144, li_168, li_194, li_240, li_255, li_284, li_299, li_603, li_999, li_1200, li_1440, li_4095, li_4096, li_6030, li_16384, li_20160, zl0, zl1, zl2, zl3, zl4, ze01, ze02, ze03, ze04, ze10, ze12, ze13, ze14, ze20, ze21, ze23, ze24, ze30, ze31, ze32, ze34, ze40, ze41, ze42, ze43, zt0, zt1, zt2, zt3, zt4, zq0, zq1, zq2, zq3, zq4, it_t, it_f, Bool.true_eq_false, Bool.false_eq_true, na5, na4, na1441, na2, na10, sx_IOIA, sx_IOIS, sx_IONS, sx_IAIO, sx_IAIS, sx_IANS, sx_ISIO, sx_ISIA, sx_ISNS, sx_NSIO, sx_NSIA, sx_NSIS, aJ_v]
  have sz : m_X8_sizeOf Q (nI so) h = some (nI cnt, h) := by
    rcases (show so = 0 ∨ so = 1 ∨ so = 2 ∨ so = 3 by omega) with r | r | r | r <;> subst r <;> simp (maxSteps := 3000000) (disch := first | assumption | omega) only [m_X8_sizeOf, swO_l0, swO_l1, swO_l2, bO_v, bR_v, bX_l, bX_r, bC_l, bC_r, aLet_v, nI_add, pk_mul, dvI_n, rmI_n, iMax_n, iMin_n, zO_0, zO_1, li_0, li_1, li_2, li_3, li_4, li_5, li_6, li_7, li_8, li_9, li_10, li_12, li_14, li_15, li_16, li_18, li_19, li_20, li_22, li_23, li_24, li_26, li_29, li_30, li_31, li_32, li_36, li_38, li_48, li_50, li_57, li_58, li_59, li_60, li_63, li_97, li_99, li_120, li_122, li_144, li_168, li_194, li_240, li_255, li_284, li_299, li_603, li_999, li_1200, li_1440, li_4095, li_4096, li_6030, li_16384, li_20160, zl0, zl1, zl2, zl3, zl4, ze01, ze02, ze03, ze04, ze10, ze12, ze13, ze14, ze20, ze21, ze23, ze24, ze30, ze31, ze32, ze34, ze40, ze41, ze42, ze43, zt0, zt1, zt2, zt3, zt4, zq0, zq1, zq2, zq3, zq4, it_t, it_f, Bool.true_eq_false, Bool.false_eq_true, na5, na4, na1441, na2, na10, sx_IOIA, sx_IOIS, sx_IONS, sx_IAIO, sx_IAIS, sx_IANS, sx_ISIO, sx_ISIA, sx_ISNS, sx_NSIO, sx_NSIA, sx_NSIS, p_cP_gi hS hQ] <;> exact congrArg (fun v => some (v, h)) ec
  have nmo : ∀ i, i < cnt → m_X8_nameOf Q (nI so) (nI i) h = some (h_lv h (nmO Q so i) 0, h) := fun i hi => by
    rcases (show so = 0 ∨ so = 1 ∨ so = 2 ∨ so = 3 by omega) with r | r | r | r <;> subst r
    · have h9 : cnt ≤ 12 := hc
      have : i < 12 := by omega
      simp (maxSteps := 3000000) (disch := first | assumption | omega) only [m_X8_nameOf, swO_l0, bO_v, bR_v, bX_l, bX_r, bC_l, bC_r, aLet_v, nI_add, pk_mul, dvI_n, rmI_n, iMax_n, iMin_n, zO_0, zO_1, li_0, li_1, li_2, li_3, li_4, li_5, li_6, li_7, li_8, li_9, li_10, li_12, li_14, li_15, li_16, li_18, li_19, li_20, li_22, li_23, li_24, li_26, li_29, li_30, li_31, li_32, li_36, li_38, li_48, li_50, li_57, li_58, li_59, li_60, li_63, li_97, li_99, li_120, li_122, li_144, li_168, li_194, li_240, li_255, li_284, li_299, li_603, li_999, li_1200, li_1440, li_4095, li_4096, li_6030, li_16384, li_20160, zl0, zl1, zl2, zl3, zl4, ze01, ze02, ze03, ze04, ze10, ze12, ze13, ze14, ze20, ze21, ze23, ze24, ze30, ze31, ze32, ze34, ze40, ze41, ze42, ze43, zt0, zt1, zt2, zt3, zt4, zq0, zq1, zq2, zq3, zq4, it_t, it_f, Bool.true_eq_false, Bool.false_eq_true, na5, na4, na1441, na2, na10, sx_IOIA, sx_IOIS, sx_IONS, sx_IAIO, sx_IAIS, sx_IANS, sx_ISIO, sx_ISIA, sx_ISNS, sx_NSIO, sx_NSIA, sx_NSIS, p_pps hS hQ, p_ep_al hS hQ, p_ep_gL hS hQ]; rfl
    · have h9 : cnt ≤ 6 := hc
      have : i < 6 := by omega
      simp (maxSteps := 3000000) (disch := first | assumption | omega) only [m_X8_nameOf, swO_l0, swO_l1, bO_v, bR_v, bX_l, bX_r, bC_l, bC_r, aLet_v, nI_add, pk_mul, dvI_n, rmI_n, iMax_n, iMin_n, zO_0, zO_1, li_0, li_1, li_2, li_3, li_4, li_5, li_6, li_7, li_8, li_9, li_10, li_12, li_14, li_15, li_16, li_18, li_19, li_20, li_22, li_23, li_24, li_26, li_29, li_30, li_31, li_32, li_36, li_38, li_48, li_50, li_57, li_58, li_59, li_60, li_63, li_97, li_99, li_120, li_122, li_144, li_168, li_194, li_240, li_255, li_284, li_299, li_603, li_999, li_1200, li_1440, li_4095, li_4096, li_6030, li_16384, li_20160, zl0, zl1, zl2, zl3, zl4, ze01, ze02, ze03, ze04, ze10, ze12, ze13, ze14, ze20, ze21, ze23, ze24, ze30, ze31, ze32, ze34, ze40, ze41, ze42, ze43, zt0, zt1, zt2, zt3, zt4, zq0, zq1, zq2, zq3, zq4, it_t, it_f, Bool.true_eq_false, Bool.false_eq_true, na5, na4, na1441, na2, na10, sx_IOIA, sx_IOIS, sx_IONS, sx_IAIO, sx_IAIS, sx_IANS, sx_ISIO, sx_ISIA, sx_ISNS, sx_NSIO, sx_NSIA, sx_NSIS, p_pgs hS hQ, p_eg_al hS hQ, p_eg_gL hS hQ]; rfl
    · have h9 : cnt ≤ 5 := hc
      have : i < 5 := by omega
      simp (maxSteps := 3000000) (disch := first | assumption | omega) only [m_X8_nameOf, swO_l0, swO_l1, swO_l2, bO_v, bR_v, bX_l, bX_r, bC_l, bC_r, aLet_v, nI_add, pk_mul, dvI_n, rmI_n, iMax_n, iMin_n, zO_0, zO_1, li_0, li_1, li_2, li_3, li_4, li_5, li_6, li_7, li_8, li_9, li_10, li_12, li_14, li_15, li_16, li_18, li_19, li_20, li_22, li_23, li_24, li_26, li_29, li_30, li_31, li_32, li_36, li_38, li_48, li_50, li_57, li_58, li_59, li_60, li_63, li_97, li_99, li_120, li_122, li_144, li_168, li_194, li_240, li_255, li_284, li_299, li_603, li_999, li_1200, li_1440, li_4095, li_4096, li_6030, li_16384, li_20160, zl0, zl1, zl2, zl3, zl4, ze01, ze02, ze03, ze04, ze10, ze12, ze13, ze14, ze20, ze21, ze23, ze24, ze30, ze31, ze32, ze34, ze40, ze41, ze42, ze43, zt0, zt1, zt2, zt3, zt4, zq0, zq1, zq2, zq3, zq4, it_t, it_f, Bool.true_eq_false, Bool.false_eq_true, na5, na4, na1441, na2, na10, sx_IOIA, sx_IOIS, sx_IONS, sx_IAIO, sx_IAIS, sx_IANS, sx_ISIO, sx_ISIA, sx_ISNS, sx_NSIO, sx_NSIA, sx_NSIS, p_pes hS hQ, p_ee_al hS hQ, p_ee_gL hS hQ]; rfl
    · have h9 : cnt ≤ 6 := hc
      have : i < 6 := by omega
      simp (maxSteps := 3000000) (disch := first | assumption | omega) only [m_X8_nameOf, swO_l0, swO_l1, swO_l2, bO_v, bR_v, bX_l, bX_r, bC_l, bC_r, aLet_v, nI_add, pk_mul, dvI_n, rmI_n, iMax_n, iMin_n, zO_0, zO_1, li_0, li_1, li_2, li_3, li_4, li_5, li_6, li_7, li_8, li_9, li_10, li_12, li_14, li_15, li_16, li_18, li_19, li_20, li_22, li_23, li_24, li_26, li_29, li_30, li_31, li_32, li_36, li_38, li_48, li_50, li_57, li_58, li_59, li_60, li_63, li_97, li_99, li_120, li_122, li_144, li_168, li_194, li_240, li_255, li_284, li_299, li_603, li_999, li_1200, li_1440, li_4095, li_4096, li_6030, li_16384, li_20160, zl0, zl1, zl2, zl3, zl4, ze01, ze02, ze03, ze04, ze10, ze12, ze13, ze14, ze20, ze21, ze23, ze24, ze30, ze31, ze32, ze34, ze40, ze41, ze42, ze43, zt0, zt1, zt2, zt3, zt4, zq0, zq1, zq2, zq3, zq4, it_t, it_f, Bool.true_eq_false, Bool.false_eq_true, na5, na4, na1441, na2, na10, sx_IOIA, sx_IOIS, sx_IONS, sx_IAIO, sx_IAIS, sx_IANS, sx_ISIO, sx_ISIA, sx_ISNS, sx_NSIO, sx_NSIA, sx_NSIS, p_pks hS hQ, p_ek_al hS hQ, p_ek_gL hS hQ]; rfl
  have c12 : cnt ≤ 12 := by split at hc <;> (try split at hc) <;> omega
  refine aL1_run (R := fun o => o = some (if fa_first (fun i => decide (h_lv h (nmO Q so i) 0 = v)) cnt < cnt then nI (fa_first (fun i => decide (h_lv h (nmO Q so i) 0 = v)) cnt) else -nI 1, h)) (fun m s1 g => g = h ∧ ∃ i, i ≤ cnt ∧ m = cnt - i ∧ s1 = nI i ∧ ∀ j, j < i → h_lv h (nmO Q so j) 0 ≠ v) ⟨rfl, 0, Nat.zero_le _, rfl, rfl, fun j r => absurd r (Nat.not_lt_zero j)⟩ (by omega) ?_
  rintro rec m s1 g ⟨rfl, i, hi, rfl, rfl, no⟩ ih
  by_cases hlt : i < cnt
  · simp (maxSteps := 3000000) (disch := first | assumption | omega) only [m_X8_numberOf_L3, bO_v, bR_v, bX_l, bX_r, bC_l, bC_r, aLet_v, nI_add, pk_mul, dvI_n, rmI_n, iMax_n, iMin_n, zO_0, zO_1, li_0, li_1, li_2, li_3, li_4, li_5, li_6, li_7, li_8, li_9, li_10, li_12, li_14, li_15, li_16, li_18, li_19, li_20, li_22, li_23, li_24, li_26, li_29, li_30, li_31, li_32, li_36, li_38, li_48, li_50, li_57, li_58, li_59, li_60, li_63, li_97, li_99, li_120, li_122, li_144, li_168, li_194, li_240, li_255, li_284, li_299, li_603, li_999, li_1200, li_1440, li_4095, li_4096, li_6030, li_16384, li_20160, zl0, zl1, zl2, zl3, zl4, ze01, ze02, ze03, ze04, ze10, ze12, ze13, ze14, ze20, ze21, ze23, ze24, ze30, ze31, ze32, ze34, ze40, ze41, ze42, ze43, zt0, zt1, zt2, zt3, zt4, zq0, zq1, zq2, zq3, zq4, it_t, it_f, Bool.true_eq_false, Bool.false_eq_true, na5, na4, na1441, na2, na10, sx_IOIA, sx_IOIS, sx_IONS, sx_IAIO, sx_IAIS, sx_IANS, sx_ISIO, sx_ISIA, sx_ISNS, sx_NSIO, sx_NSIA, sx_NSIS, p_cP_gS hS hQ, sz, nI_ltI, nmo i hlt, lgc_eqn]
    rw [if_pos hlt]
    by_cases c : h_lv g (nmO Q so i) 0 = v
    · rw [if_pos c]
      rw [fst_is hlt (decide_eq_true c) (fun j hj => decide_eq_false (no j hj)), if_pos hlt]
    · rw [if_neg c]
      refine ih _ _ _ (by omega) ⟨rfl, i + 1, hlt, rfl, rfl, fun j hj => ?_⟩
      by_cases cj : j = i
      · rw [cj]; exact c
      · exact no j (by omega)
  · obtain rfl : i = cnt := by omega
    simp (maxSteps := 3000000) (disch := first | assumption | omega) only [m_X8_numberOf_L3, bO_v, bR_v, bX_l, bX_r, bC_l, bC_r, aLet_v, nI_add, pk_mul, dvI_n, rmI_n, iMax_n, iMin_n, zO_0, zO_1, li_0, li_1, li_2, li_3, li_4, li_5, li_6, li_7, li_8, li_9, li_10, li_12, li_14, li_15, li_16, li_18, li_19, li_20, li_22, li_23, li_24, li_26, li_29, li_30, li_31, li_32, li_36, li_38, li_48, li_50, li_57, li_58, li_59, li_60, li_63, li_97, li_99, li_120, li_122, li_144, li_168, li_194, li_240, li_255, li_284, li_299, li_603, li_999, li_1200, li_1440, li_4095, li_4096, li_6030, li_16384, li_20160, zl0, zl1, zl2, zl3, zl4, ze01, ze02, ze03, ze04, ze10, ze12, ze13, ze14, ze20, ze21, ze23, ze24, ze30, ze31, ze32, ze34, ze40, ze41, ze42, ze43, zt0, zt1, zt2, zt3, zt4, zq0, zq1, zq2, zq3, zq4, it_t, it_f, Bool.true_eq_false, Bool.false_eq_true, na5, na4, na1441, na2, na10, sx_IOIA, sx_IOIS, sx_IONS, sx_IAIO, sx_IAIS, sx_IANS, sx_ISIO, sx_ISIA, sx_ISNS, sx_NSIO, sx_NSIA, sx_NSIS, p_cP_gS hS hQ, sz, nI_ltI]
    rw [if_neg hlt, if_neg (fst_nlt (fun j hj => decide_eq_false (no j hj)))]
/-- what the reference makes of the text -/
def rvN (tx : Nat → Nat) (n : Nat) : Int64 := if n ≤ wle tx n 0 ∧ n ≤ 8 then lN (enc 27 (wd tx 0) n) else -1
def rvP (tx : Nat → Nat) (n j : Nat) : Int64 := if j ≤ wle tx n 0 ∧ j ≤ 8 then lN (enc 27 (wd tx 0) j) else -1
theorem y_findL (hS : Sh h) (X : TR tx n h) (k : Int64 → aH → Option (Int32 × aH)) (Z : Option (Int32 × aH) → Prop) (hk : Z (k (rvN tx n) h)) : Z (aL2 (m_X12_find_L26 412 k) FU (0 : Int64) (nI 0) h) := by
  have x1 := X.1
  have x2 := X.2.1
  have wl : wle tx n 0 ≤ n - 0 := run_le
  refine aL2_run (R := Z) (fun m s1 s2 g => g = h ∧ ∃ j, j ≤ n ∧ m = n - j ∧ s1 = rvP tx n j ∧ s2 = nI j) ⟨rfl, 0, Nat.zero_le _, rfl, ?_, rfl⟩ (by omega) ?_
  · unfold rvP
    rw [if_pos ⟨Nat.zero_le _, Nat.zero_le _⟩]
    rfl
  rintro rec m s1 s2 g ⟨rfl, j, hj, rfl, rfl, rfl⟩ ih
  by_cases hlt : j < n
  · have il := y_isLt hS X (p := j) (by omega)
    have tb := X.2.2 j hlt
    rw [decide_eq_true hlt, Bool.true_and] at il
    simp (maxSteps := 3000000) (disch := first | assumption | omega) only [m_X12_find_L26, bO_v, bR_v, bX_l, bX_r, bC_l, bC_r, aLet_v, nI_add, pk_mul, dvI_n, rmI_n, iMax_n, iMin_n, zO_0, zO_1, li_0, li_1, li_2, li_3, li_4, li_5, li_6, li_7, li_8, li_9, li_10, li_12, li_14, li_15, li_16, li_18, li_19, li_20, li_22, li_23, li_24, li_26, li_29, li_30, li_31, li_32, li_36, li_38, li_48, li_50, li_57, li_58, li_59, li_60, li_63, li_97, li_99, li_120, li_122, li_144, li_168, li_194, li_240, li_255, li_284, li_299, li_603, li_999, li_1200, li_1440, li_4095, li_4096, li_6030, li_16384, li_20160, zl0, zl1, zl2, zl3, zl4, ze01, ze02, ze03, ze04, ze10, ze12, ze13, ze14, ze20, ze21, ze23, ze24, ze30, ze31, ze32, ze34, ze40, ze41, ze42, ze43, zt0, zt1, zt2, zt3, zt4, zq0, zq1, zq2, zq3, zq4, it_t, it_f, Bool.true_eq_false, Bool.false_eq_true, na5, na4, na1441, na2, na10, sx_IOIA, sx_IOIS, sx_IONS, sx_IAIO, sx_IAIS, sx_IANS, sx_ISIO, sx_ISIA, sx_ISNS, sx_NSIO, sx_NSIA, sx_NSIS, r_cM_gi hS, x2, nI_ltI, if_pos hlt, r_cM_gS hS, il, b2i_0]
    refine aJ_gen (R := Z) (fun k83 hk83 => ?_)
    have go : ∀ y, y = rvP tx n (j + 1) → Z (k83 y g) := fun y hy => by
      rw [hk83]
      simp (maxSteps := 3000000) (disch := first | assumption | omega) only [bO_v, bR_v, bX_l, bX_r, bC_l, bC_r, aLet_v, nI_add, pk_mul, dvI_n, rmI_n, iMax_n, iMin_n, zO_0, zO_1, li_0, li_1, li_2, li_3, li_4, li_5, li_6, li_7, li_8, li_9, li_10, li_12, li_14, li_15, li_16, li_18, li_19, li_20, li_22, li_23, li_24, li_26, li_29, li_30, li_31, li_32, li_36, li_38, li_48, li_50, li_57, li_58, li_59, li_60, li_63, li_97, li_99, li_120, li_122, li_144, li_168, li_194, li_240, li_255, li_284, li_299, li_603, li_999, li_1200, li_1440, li_4095, li_4096, li_6030, li_16384, li_20160, zl0, zl1, zl2, zl3, zl4, ze01, ze02, ze03, ze04, ze10, ze12, ze13, ze14, ze20, ze21, ze23, ze24, ze30, ze31, ze32, ze34, ze40, ze41, ze42, ze43, zt0, zt1, zt2, zt3, zt4, zq0, zq1, zq2, zq3, zq4, it_t, it_f, Bool.true_eq_false, Bool.false_eq_true, na5, na4, na1441, na2, na10, sx_IOIA, sx_IOIS, sx_IONS, sx_IAIO, sx_IAIS, sx_IANS, sx_ISIO, sx_ISIA, sx_ISNS, sx_NSIO, sx_NSIA, sx_NSIS]
      exact ih _ _ _ _ (by omega) ⟨rfl, j + 1, hlt, rfl, hy, rfl⟩
    refine aJ_gen (R := Z) (fun k80 hk80 => ?_)
    have no : ¬ (j + 1 ≤ wle tx n 0 ∧ j + 1 ≤ 8) → Z (k80 g) := fun q => by
      rw [hk80]
      exact go _ (by unfold rvP; rw [if_neg q])
    by_cases c1 : isLt (tx j) = false
    · rw [if_pos c1]
      refine no (fun q => ?_)
      have := run_in (tx := tx) (q := isLt) (n := n) (p := 0) (k := j) (by unfold wle at q; omega)
      rw [Nat.zero_add, c1] at this
      cases this
    · rw [if_neg c1]
      by_cases c8 : j < 8
      · rw [if_pos c8]
        have z0 : (nI 0).toInt64.toInt = 0 := rfl
        simp (maxSteps := 3000000) (disch := first | assumption | omega) only [bO_v, bR_v, bX_l, bX_r, bC_l, bC_r, aLet_v, nI_add, pk_mul, dvI_n, rmI_n, iMax_n, iMin_n, zO_0, zO_1, li_0, li_1, li_2, li_3, li_4, li_5, li_6, li_7, li_8, li_9, li_10, li_12, li_14, li_15, li_16, li_18, li_19, li_20, li_22, li_23, li_24, li_26, li_29, li_30, li_31, li_32, li_36, li_38, li_48, li_50, li_57, li_58, li_59, li_60, li_63, li_97, li_99, li_120, li_122, li_144, li_168, li_194, li_240, li_255, li_284, li_299, li_603, li_999, li_1200, li_1440, li_4095, li_4096, li_6030, li_16384, li_20160, zl0, zl1, zl2, zl3, zl4, ze01, ze02, ze03, ze04, ze10, ze12, ze13, ze14, ze20, ze21, ze23, ze24, ze30, ze31, ze32, ze34, ze40, ze41, ze42, ze43, zt0, zt1, zt2, zt3, zt4, zq0, zq1, zq2, zq3, zq4, it_t, it_f, Bool.true_eq_false, Bool.false_eq_true, na5, na4, na1441, na2, na10, sx_IOIA, sx_IOIS, sx_IONS, sx_IAIO, sx_IAIS, sx_IANS, sx_ISIO, sx_ISIA, sx_ISNS, sx_NSIO, sx_NSIA, sx_NSIS, lgc_ltn, r_p435 hS, r_c435_al hS, tb.2, wide_n]
        by_cases c3 : j ≤ wle tx n 0
        · have e1 : rvP tx n j = wpf tx 0 j := by unfold rvP wpf; rw [if_pos ⟨c3, by omega⟩, if_pos (by omega)]
          have c4 : j < wle tx n 0 := by
            rcases Nat.lt_or_ge j (wle tx n 0) with q | q
            · exact q
            · exfalso
              have e : wle tx n 0 = j := by omega
              have := run_end (tx := tx) (q := isLt) (n := n) (p := 0) (by unfold wle at e; omega)
              unfold wle at e
              rw [e, Nat.zero_add] at this
              exact c1 this
          have lt := of_decide_eq_true (run_in (tx := tx) (q := isLt) (n := n) (p := 0) (k := j) c4)
          have el := enc_lt (b := 27) (by omega) (f := wd tx 0) (n := j) (fun k hk => wd_le (n := n) (m := j) c3 hk)
          have ep : 27 ^ j ≤ 27 ^ 8 := Nat.pow_le_pow_right (by decide) (by omega)
          have e8 : (27 : Nat) ^ 8 = 282429536481 := by decide
          rw [e1]
          have nn : ¬ (wpf tx 0 j).toInt < (0 : Int64).toInt := by
            unfold wpf
            rw [if_pos (by omega), lN_int (by omega)]
            show ¬ ((enc 27 (wd tx 0) j : Nat) : Int) < 0
            omega
          rw [if_neg nn]
          have := wpf_s (tx := tx) (s := 0) (j := j) c8 (by omega)
          rw [Nat.zero_add] at this
          refine go _ (this.trans ?_)
          unfold wpf rvP
          rw [if_pos (by omega), if_pos ⟨c4, by omega⟩]
        · have e1 : rvP tx n j = -1 := by unfold rvP; rw [if_neg (fun q => c3 q.1)]
          rw [e1, if_pos (show (-1 : Int64).toInt < (0 : Int64).toInt by decide)]
          exact no (fun q => c3 (by omega))
      · rw [if_neg c8]
        exact no (fun q => by omega)
  · obtain rfl : j = n := by omega
    simp (maxSteps := 3000000) (disch := first | assumption | omega) only [m_X12_find_L26, bO_v, bR_v, bX_l, bX_r, bC_l, bC_r, aLet_v, nI_add, pk_mul, dvI_n, rmI_n, iMax_n, iMin_n, zO_0, zO_1, li_0, li_1, li_2, li_3, li_4, li_5, li_6, li_7, li_8, li_9, li_10, li_12, li_14, li_15, li_16, li_18, li_19, li_20, li_22, li_23, li_24, li_26, li_29, li_30, li_31, li_32, li_36, li_38, li_48, li_50, li_57, li_58, li_59, li_60, li_63, li_97, li_99, li_120, li_122, li_144, li_168, li_194, li_240, li_255, li_284, li_299, li_603, li_999, li_1200, li_1440, li_4095, li_4096, li_6030, li_16384, li_20160, zl0, zl1, zl2, zl3, zl4, ze01, ze02, ze03, ze04, ze10, ze12, ze13, ze14, ze20, ze21, ze23, ze24, ze30, ze31, ze32, ze34, ze40, ze41, ze42, ze43, zt0, zt1, zt2, zt3, zt4, zq0, zq1, zq2, zq3, zq4, it_t, it_f, Bool.true_eq_false, Bool.false_eq_true, na5, na4, na1441, na2, na10, sx_IOIA, sx_IOIS, sx_IONS, sx_IAIO, sx_IAIS, sx_IANS, sx_ISIO, sx_ISIA, sx_ISNS, sx_NSIO, sx_NSIA, sx_NSIS, r_cM_gi hS, x2, nI_ltI, if_neg hlt]
    exact hk
end
