/-! the class's reader: an engine -/
section
variable {h h0 : aH} {tx : Nat → Nat} {n Q s : Nat} {M : Nat → Nat → Nat}
/-- one post more: what every set of skills is asked for -/
theorem k_addPost (hS : Sh h) (hQ : Q ∈ plL) {e c sk : Nat} (he : e < 5) (hc : c < 6) (hk : sk < 32) {f : Nat → Nat} (f32 : ∀ k, k < 32 → f k ≤ 6) (ec : h_iv h (Q + 32 + 3 * e) 2 = nI c) (ef : ∀ k, k < 32 → h_iv h (Q + 34 + 3 * e) k = nI (f k)) :
    OK (m_X1_addPost (Q + 32 + 3 * e) (nI sk) h) (fun _ h1 => Fx (fun o k => Q + 32 + 3 * e ≤ o ∧ o ≤ Q + 34 + 3 * e ∧ (o = Q + 32 + 3 * e → k = 2)) h h1 ∧ h_iv h1 (Q + 32 + 3 * e) 2 = nI (c + 1) ∧ (∀ k, h_iv h1 (Q + 33 + 3 * e) k = if k = c then nI sk else h_iv h (Q + 33 + 3 * e) k) ∧ ∀ k, k < 32 → h_iv h1 (Q + 34 + 3 * e) k = nI (f k + (if k &&& sk ≠ 0 then 1 else 0))) := by
  have S1 : Sh (h_si h (Q + 33 + 3 * e) c (nI sk)) := hS.si _ _ _
  have g1 : h_iv (h_si h (Q + 33 + 3 * e) c (nI sk)) (Q + 32 + 3 * e) 2 = nI c := by rw [si_ne (by omega)]; exact ec
  simp (maxSteps := 3000000) (disch := first | assumption | omega) only [m_X1_addPost, bO_v, bR_v, bX_l, bX_r, bC_l, bC_r, aLet_v, nI_add, pk_mul, dvI_n, rmI_n, iMax_n, iMin_n, zO_0, zO_1, li_0, li_1, li_2, li_3, li_4, li_5, li_6, li_7, li_8, li_9, li_10, li_12, li_14, li_15, li_16, li_18, li_19, li_20, li_22, li_23, li_24, li_26, li_29, li_30, li_31, li_32, li_36, li_38, li_48, li_50, li_57, li_58, li_59, li_60, li_63, li_97, li_99, li_120, li_122, li_144, li_168, li_194, li_240, li_255, li_284, li_299, li_603, li_999, li_1200, li_1440, li_4095, li_4096, li_6030, li_16384, li_20160, zl0, zl1, zl2, zl3, zl4, ze01, ze02, ze03, ze04, ze10, ze12, ze13, ze14, ze20, ze21, ze23, ze24, ze30, ze31, ze32, ze34, ze40, ze41, ze42, ze43, zt0, zt1, zt2, zt3, zt4, zq0, zq1, zq2, zq3, zq4, it_t, it_f, Bool.true_eq_false, Bool.false_eq_true, na5, na4, na1441, na2, na10, sx_IOIA, sx_IOIS, sx_IONS, sx_IAIO, sx_IAIS, sx_IANS, sx_ISIO, sx_ISIA, sx_ISNS, sx_NSIO, sx_NSIA, sx_NSIS, p_ees_p hS hQ, p_ee_gi hS hQ, ec, p_ees_as hS hQ, p_ee_gi S1 hQ, g1, p_ee_pi S1 hQ]
  have F2 : Fx (fun o k => Q + 32 + 3 * e ≤ o ∧ o ≤ Q + 34 + 3 * e ∧ (o = Q + 32 + 3 * e → k = 2)) h (h_si (h_si h (Q + 33 + 3 * e) c (nI sk)) (Q + 32 + 3 * e) 2 (nI (c + 1))) := (Fx.si (by omega)).trans (Fx.si (by omega))
  have w2 : h_iv (h_si (h_si h (Q + 33 + 3 * e) c (nI sk)) (Q + 32 + 3 * e) 2 (nI (c + 1))) (Q + 32 + 3 * e) 2 = nI (c + 1) := si_at
  have w3 : ∀ k, h_iv (h_si (h_si h (Q + 33 + 3 * e) c (nI sk)) (Q + 32 + 3 * e) 2 (nI (c + 1))) (Q + 33 + 3 * e) k = if k = c then nI sk else h_iv h (Q + 33 + 3 * e) k := fun k => by
    rw [si_ne (by omega)]
    by_cases r : k = c
    · rw [if_pos r, r, si_at]
    · rw [if_neg r, si_ne (by omega)]
  have w4 : ∀ k, k < 32 → h_iv (h_si (h_si h (Q + 33 + 3 * e) c (nI sk)) (Q + 32 + 3 * e) 2 (nI (c + 1))) (Q + 34 + 3 * e) k = nI (f k) := fun k hk => by rw [si_ne (by omega), si_ne (by omega)]; exact ef k hk
  generalize h_si (h_si h (Q + 33 + 3 * e) c (nI sk)) (Q + 32 + 3 * e) 2 (nI (c + 1)) = h2 at F2 w2 w3 w4
  have S2 := F2.sh hS
  refine aJ_gen (R := fun o => OK o _) (fun k50 hk50 => ?_)
  refine aL1_run (R := fun o => OK o _) (fun m s1 h3 => ∃ i, i ≤ 32 ∧ m = 32 - i ∧ s1 = nI i ∧ Fx (fun o _ => o = Q + 34 + 3 * e) h2 h3 ∧ ∀ k, k < 32 → h_iv h3 (Q + 34 + 3 * e) k = nI (f k + (if k < i ∧ k &&& sk ≠ 0 then 1 else 0))) ⟨0, Nat.zero_le _, rfl, rfl, Fx.rf, fun k hk => by rw [if_neg (by omega)]; exact w4 k hk⟩ (by omega) ?_
  rintro rec m s1 h3 ⟨i, hi, rfl, rfl, F3, g3⟩ ih
  have S3 := F3.sh S2
  by_cases hlt : i < 32
  · have gi := g3 i hlt
    rw [if_neg (by omega), Nat.add_zero] at gi
    have an : nI i &&& nI sk = nI (i &&& sk) := fa_and _ _
    have al : i &&& sk < 4096 := Nat.lt_of_le_of_lt Nat.and_le_left (by omega)
    have f6 := f32 i hlt
    simp (maxSteps := 3000000) (disch := first | assumption | omega) only [m_X1_addPost_L22, bO_v, bR_v, bX_l, bX_r, bC_l, bC_r, aLet_v, nI_add, pk_mul, dvI_n, rmI_n, iMax_n, iMin_n, zO_0, zO_1, li_0, li_1, li_2, li_3, li_4, li_5, li_6, li_7, li_8, li_9, li_10, li_12, li_14, li_15, li_16, li_18, li_19, li_20, li_22, li_23, li_24, li_26, li_29, li_30, li_31, li_32, li_36, li_38, li_48, li_50, li_57, li_58, li_59, li_60, li_63, li_97, li_99, li_120, li_122, li_144, li_168, li_194, li_240, li_255, li_284, li_299, li_603, li_999, li_1200, li_1440, li_4095, li_4096, li_6030, li_16384, li_20160, zl0, zl1, zl2, zl3, zl4, ze01, ze02, ze03, ze04, ze10, ze12, ze13, ze14, ze20, ze21, ze23, ze24, ze30, ze31, ze32, ze34, ze40, ze41, ze42, ze43, zt0, zt1, zt2, zt3, zt4, zq0, zq1, zq2, zq3, zq4, it_t, it_f, Bool.true_eq_false, Bool.false_eq_true, na5, na4, na1441, na2, na10, sx_IOIA, sx_IOIS, sx_IONS, sx_IAIO, sx_IAIS, sx_IANS, sx_ISIO, sx_ISIA, sx_ISNS, sx_NSIO, sx_NSIA, sx_NSIS, nI_ltI, an, nI_eq, p_eed_p S3 hQ, p_eed_al S3 hQ, gi, p_eed_as S3 hQ]
    rw [if_pos hlt]
    refine aJ_gen (R := fun o => OK o _) (fun k44 hk44 => ?_)
    by_cases c0 : i &&& sk = 0
    · rw [if_pos c0, hk44]
      simp only [bO_v, bR_v, bX_l, bX_r, bC_l, bC_r, aLet_v, nI_add, pk_mul, dvI_n, rmI_n, iMax_n, iMin_n, zO_0, zO_1, li_0, li_1, li_2, li_3, li_4, li_5, li_6, li_7, li_8, li_9, li_10, li_12, li_14, li_15, li_16, li_18, li_19, li_20, li_22, li_23, li_24, li_26, li_29, li_30, li_31, li_32, li_36, li_38, li_48, li_50, li_57, li_58, li_59, li_60, li_63, li_97, li_99, li_120, li_122, li_144, li_168, li_194, li_240, li_255, li_284, li_299, li_603, li_999, li_1200, li_1440, li_4095, li_4096, li_6030, li_16384, li_20160, zl0, zl1, zl2, zl3, zl4, ze01, ze02, ze03, ze04, ze10, ze12, ze13, ze14, ze20, ze21, ze23, ze24, ze30, ze31, ze32, ze34, ze40, ze41, ze42, ze43, zt0, zt1, zt2, zt3, zt4, zq0, zq1, zq2, zq3, zq4, it_t, it_f, Bool.true_eq_false, Bool.false_eq_true, na5, na4, na1441, na2, na10, sx_IOIA, sx_IOIS, sx_IONS, sx_IAIO, sx_IAIS, sx_IANS, sx_ISIO, sx_ISIA, sx_ISNS, sx_NSIO, sx_NSIA, sx_NSIS]
      refine ih _ _ _ (by omega) ⟨i + 1, hlt, rfl, rfl, F3, fun k hk => ?_⟩
      rw [g3 k hk]
      by_cases ck : k = i
      · rw [ck, if_neg (fun q => q.2 c0), if_neg (fun q => q.2 c0)]
      · simp only [show (k < i + 1) = (k < i) from propext (by omega)]
    · rw [if_neg c0, hk44]
      simp only [bO_v, bR_v, bX_l, bX_r, bC_l, bC_r, aLet_v, nI_add, pk_mul, dvI_n, rmI_n, iMax_n, iMin_n, zO_0, zO_1, li_0, li_1, li_2, li_3, li_4, li_5, li_6, li_7, li_8, li_9, li_10, li_12, li_14, li_15, li_16, li_18, li_19, li_20, li_22, li_23, li_24, li_26, li_29, li_30, li_31, li_32, li_36, li_38, li_48, li_50, li_57, li_58, li_59, li_60, li_63, li_97, li_99, li_120, li_122, li_144, li_168, li_194, li_240, li_255, li_284, li_299, li_603, li_999, li_1200, li_1440, li_4095, li_4096, li_6030, li_16384, li_20160, zl0, zl1, zl2, zl3, zl4, ze01, ze02, ze03, ze04, ze10, ze12, ze13, ze14, ze20, ze21, ze23, ze24, ze30, ze31, ze32, ze34, ze40, ze41, ze42, ze43, zt0, zt1, zt2, zt3, zt4, zq0, zq1, zq2, zq3, zq4, it_t, it_f, Bool.true_eq_false, Bool.false_eq_true, na5, na4, na1441, na2, na10, sx_IOIA, sx_IOIS, sx_IONS, sx_IAIO, sx_IAIS, sx_IANS, sx_ISIO, sx_ISIA, sx_ISNS, sx_NSIO, sx_NSIA, sx_NSIS]
      refine ih _ _ _ (by omega) ⟨i + 1, hlt, rfl, rfl, F3.trans (Fx.si (A := fun o _ => o = Q + 34 + 3 * e) rfl), fun k hk => ?_⟩
      by_cases ck : k = i
      · rw [ck, si_at, if_pos ⟨by omega, c0⟩]
      · rw [si_ne (by omega), g3 k hk]
        simp only [show (k < i + 1) = (k < i) from propext (by omega)]
  · obtain rfl : i = 32 := by omega
    simp (maxSteps := 3000000) (disch := first | assumption | omega) only [m_X1_addPost_L22, bO_v, bR_v, bX_l, bX_r, bC_l, bC_r, aLet_v, nI_add, pk_mul, dvI_n, rmI_n, iMax_n, iMin_n, zO_0, zO_1, li_0, li_1, li_2, li_3, li_4, li_5, li_6, li_7, li_8, li_9, li_10, li_12, li_14, li_15, li_16, li_18, li_19, li_20, li_22, li_23, li_24, li_26, li_29, li_30, li_31, li_32, li_36, li_38, li_48, li_50, li_57, li_58, li_59, li_60, li_63, li_97, li_99, li_120, li_122, li_144, li_168, li_194, li_240, li_255, li_284, li_299, li_603, li_999, li_1200, li_1440, li_4095, li_4096, li_6030, li_16384, li_20160, zl0, zl1, zl2, zl3, zl4, ze01, ze02, ze03, ze04, ze10, ze12, ze13, ze14, ze20, ze21, ze23, ze24, ze30, ze31, ze32, ze34, ze40, ze41, ze42, ze43, zt0, zt1, zt2, zt3, zt4, zq0, zq1, zq2, zq3, zq4, it_t, it_f, Bool.true_eq_false, Bool.false_eq_true, na5, na4, na1441, na2, na10, sx_IOIA, sx_IOIS, sx_IONS, sx_IAIO, sx_IAIS, sx_IANS, sx_ISIO, sx_ISIA, sx_ISNS, sx_NSIO, sx_NSIA, sx_NSIS, nI_ltI, hk50]
    rw [if_neg hlt]
    refine ok_ret ⟨F2.trans (F3.mono (fun o k r => by omega)), by rw [F3.iv (by omega)]; exact w2, fun k => by rw [F3.iv (by omega)]; exact w3 k, fun k hk => ?_⟩
    rw [g3 k hk]
    simp only [show (k < 32) = True from eq_true hk, true_and]
end
