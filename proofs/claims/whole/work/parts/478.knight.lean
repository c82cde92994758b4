/-! the class's reader: the night, a person, a trust -/
section
variable {h h0 : aH} {tx : Nat → Nat} {n Q s : Nat} {M : Nat → Nat → Nat}
theorem CS.qx (C : CS tx n Q h0 h s) (hQ : Q ∈ plL) {A : Nat → Nat → Prop} {h1 : aH} (x : Fx A h h1) (hA : ∀ o k, A o k → Q ≤ o ∧ o < Q + 65) : CS tx n Q h0 h1 s := by
  have q := pl_in Q hQ
  obtain ⟨c1, c2, c3, c4, ⟨l3, l4, l5⟩, c6, c7⟩ := C
  have no : ∀ k, ¬ A 3 k := fun k a => by
    have := hA _ _ a
    omega
  exact ⟨x.sh c1, c2.trans (KX.fx x (fun o k a => Or.inr (hA o k a))), by rw [x.2.2.2.2.1]; exact c3, by rw [x.iv (no _)]; exact c4, ⟨by rw [x.iv (no _)]; exact l3, by rw [x.iv (no _)]; exact l4, by rw [x.iv (no _)]; exact l5⟩, c6, c7.1, by rw [x.iv (no _)]; exact c7.2.1, by rw [x.iv (no _)]; exact c7.2.2⟩
/-- nothing stands in the plan -/
def CLr (Q : Nat) (h : aH) : Prop := h_iv h Q 1 = nI 0 ∧ h_iv h Q 3 = nI 0 ∧ h_iv h Q 5 = nI 0 ∧ h_iv h Q 7 = nI 0 ∧ h_iv h Q 9 = nI 0 ∧ (∀ k, k < 144 → h_iv h (Q + 3) k = -nI 1) ∧ ∀ k, k < 32 → h_iv h (Q + 7) k = nI 0
theorem CLr.rf {h1 : aH} (x : CLr Q h) (r : RF h h1) (hQ : Q ∈ plL) : CLr Q h1 := by
  have q := pl_in Q hQ
  obtain ⟨x1, x2, x3, x4, x5, x6, x7⟩ := x
  have iv := r.2.2.2.2.2.1
  exact ⟨by rw [iv _ _ (by omega)]; exact x1, by rw [iv _ _ (by omega)]; exact x2, by rw [iv _ _ (by omega)]; exact x3, by rw [iv _ _ (by omega)]; exact x4, by rw [iv _ _ (by omega)]; exact x5, fun k hk => by rw [iv _ _ (by omega)]; exact x6 k hk, fun k hk => by rw [iv _ _ (by omega)]; exact x7 k hk⟩
theorem k_night (X : TX tx n h0) (hQ : Q ∈ plL) (C : CS tx n Q h0 h s) (cl : CLr Q h) : CP Q h0 (m_X9_readsNight 3 h) (sNight tx n s) (fun r h1 => CS tx n Q h0 h1 r.2 ∧ PQ tx n Q r.1 h1) := by
  have q := pl_in Q hQ
  have w := k_isWord X hQ C (i := 0) (by omega)
  rw [wc.1] at w
  simp (maxSteps := 3000000) (disch := first | assumption | omega) only [m_X9_readsNight, bO_v, bR_v, bX_l, bX_r, bC_l, bC_r, aLet_v, nI_add, pk_mul, dvI_n, rmI_n, iMax_n, iMin_n, zO_0, zO_1, li_0, li_1, li_2, li_3, li_4, li_5, li_6, li_7, li_8, li_9, li_10, li_12, li_14, li_15, li_16, li_18, li_19, li_20, li_22, li_23, li_24, li_26, li_29, li_30, li_31, li_32, li_36, li_38, li_48, li_50, li_57, li_58, li_59, li_60, li_63, li_97, li_99, li_120, li_122, li_144, li_168, li_194, li_240, li_255, li_284, li_299, li_603, li_999, li_1200, li_1440, li_4095, li_4096, li_6030, li_16384, li_20160, zl0, zl1, zl2, zl3, zl4, ze01, ze02, ze03, ze04, ze10, ze12, ze13, ze14, ze20, ze21, ze23, ze24, ze30, ze31, ze32, ze34, ze40, ze41, ze42, ze43, zt0, zt1, zt2, zt3, zt4, zq0, zq1, zq2, zq3, zq4, it_t, it_f, Bool.true_eq_false, Bool.false_eq_true, na5, na4, na1441, na2, na10, sx_IOIA, sx_IOIS, sx_IONS, sx_IAIO, sx_IAIS, sx_IANS, sx_ISIO, sx_ISIA, sx_ISNS, sx_NSIO, sx_NSIA, sx_NSIS, c_cR_gS C.1, w, b2i_0]
  unfold sNight
  cases cw : isWd tx n s 7622660
  · rw [if_pos rfl, if_pos rfl]
    obtain ⟨h1, e1, q1, -⟩ := k_fails C (c := 1)
    simp (maxSteps := 3000000) (disch := first | assumption | omega) only [e1, bO_v, bR_v, bX_l, bX_r, bC_l, bC_r, aLet_v, nI_add, pk_mul, dvI_n, rmI_n, iMax_n, iMin_n, zO_0, zO_1, li_0, li_1, li_2, li_3, li_4, li_5, li_6, li_7, li_8, li_9, li_10, li_12, li_14, li_15, li_16, li_18, li_19, li_20, li_22, li_23, li_24, li_26, li_29, li_30, li_31, li_32, li_36, li_38, li_48, li_50, li_57, li_58, li_59, li_60, li_63, li_97, li_99, li_120, li_122, li_144, li_168, li_194, li_240, li_255, li_284, li_299, li_603, li_999, li_1200, li_1440, li_4095, li_4096, li_6030, li_16384, li_20160, zl0, zl1, zl2, zl3, zl4, ze01, ze02, ze03, ze04, ze10, ze12, ze13, ze14, ze20, ze21, ze23, ze24, ze30, ze31, ze32, ze34, ze40, ze41, ze42, ze43, zt0, zt1, zt2, zt3, zt4, zq0, zq1, zq2, zq3, zq4, it_t, it_f, Bool.true_eq_false, Bool.false_eq_true, na5, na4, na1441, na2, na10, sx_IOIA, sx_IOIS, sx_IONS, sx_IAIO, sx_IAIS, sx_IANS, sx_ISIO, sx_ISIA, sx_ISNS, sx_NSIO, sx_NSIA, sx_NSIS]
    exact cp_inl rfl q1
  · rw [if_neg (by decide), if_neg (by decide)]
    have sn : s < n := by
      unfold isWd at cw
      exact nmd_in (Bool.and_eq_true_iff.mp cw).1
    obtain ⟨_, h3, e3, C3, R3, -⟩ := k_takeC X hQ C sn
    simp (maxSteps := 3000000) (disch := first | assumption | omega) only [e3, bO_v, bR_v, bX_l, bX_r, bC_l, bC_r, aLet_v, nI_add, pk_mul, dvI_n, rmI_n, iMax_n, iMin_n, zO_0, zO_1, li_0, li_1, li_2, li_3, li_4, li_5, li_6, li_7, li_8, li_9, li_10, li_12, li_14, li_15, li_16, li_18, li_19, li_20, li_22, li_23, li_24, li_26, li_29, li_30, li_31, li_32, li_36, li_38, li_48, li_50, li_57, li_58, li_59, li_60, li_63, li_97, li_99, li_120, li_122, li_144, li_168, li_194, li_240, li_255, li_284, li_299, li_603, li_999, li_1200, li_1440, li_4095, li_4096, li_6030, li_16384, li_20160, zl0, zl1, zl2, zl3, zl4, ze01, ze02, ze03, ze04, ze10, ze12, ze13, ze14, ze20, ze21, ze23, ze24, ze30, ze31, ze32, ze34, ze40, ze41, ze42, ze43, zt0, zt1, zt2, zt3, zt4, zq0, zq1, zq2, zq3, zq4, it_t, it_f, Bool.true_eq_false, Bool.false_eq_true, na5, na4, na1441, na2, na10, sx_IOIA, sx_IOIS, sx_IONS, sx_IAIO, sx_IAIS, sx_IANS, sx_ISIO, sx_ISIA, sx_ISNS, sx_NSIO, sx_NSIA, sx_NSIS, c_cR_gS C3.1]
    refine sb_cp (k_number X hQ C3 (by omega) (by omega)) (fun b h4 eb hh => ?_)
    obtain ⟨C4, R4, g7, -⟩ := hh
    obtain ⟨-, -, b3, -⟩ := sNum_inr eb
    simp (maxSteps := 3000000) (disch := first | assumption | omega) only [c_cR_gi C4.1, g7, bO_v, bR_v, bX_l, bX_r, bC_l, bC_r, aLet_v, nI_add, pk_mul, dvI_n, rmI_n, iMax_n, iMin_n, zO_0, zO_1, li_0, li_1, li_2, li_3, li_4, li_5, li_6, li_7, li_8, li_9, li_10, li_12, li_14, li_15, li_16, li_18, li_19, li_20, li_22, li_23, li_24, li_26, li_29, li_30, li_31, li_32, li_36, li_38, li_48, li_50, li_57, li_58, li_59, li_60, li_63, li_97, li_99, li_120, li_122, li_144, li_168, li_194, li_240, li_255, li_284, li_299, li_603, li_999, li_1200, li_1440, li_4095, li_4096, li_6030, li_16384, li_20160, zl0, zl1, zl2, zl3, zl4, ze01, ze02, ze03, ze04, ze10, ze12, ze13, ze14, ze20, ze21, ze23, ze24, ze30, ze31, ze32, ze34, ze40, ze41, ze42, ze43, zt0, zt1, zt2, zt3, zt4, zq0, zq1, zq2, zq3, zq4, it_t, it_f, Bool.true_eq_false, Bool.false_eq_true, na5, na4, na1441, na2, na10, sx_IOIA, sx_IOIS, sx_IONS, sx_IAIO, sx_IAIS, sx_IANS, sx_ISIO, sx_ISIA, sx_ISNS, sx_NSIO, sx_NSIA, sx_NSIS, c_cR_gS C4.1]
    refine sb_cp (k_number X hQ C4 (by omega) (by omega)) (fun e h5 ee hh => ?_)
    obtain ⟨C5, R5, g75, g65⟩ := hh
    obtain ⟨-, -, e3', -⟩ := sNum_inr ee
    simp (maxSteps := 3000000) (disch := first | assumption | omega) only [c_cR_gi C5.1, g75, g65, bO_v, bR_v, bX_l, bX_r, bC_l, bC_r, aLet_v, nI_add, pk_mul, dvI_n, rmI_n, iMax_n, iMin_n, zO_0, zO_1, li_0, li_1, li_2, li_3, li_4, li_5, li_6, li_7, li_8, li_9, li_10, li_12, li_14, li_15, li_16, li_18, li_19, li_20, li_22, li_23, li_24, li_26, li_29, li_30, li_31, li_32, li_36, li_38, li_48, li_50, li_57, li_58, li_59, li_60, li_63, li_97, li_99, li_120, li_122, li_144, li_168, li_194, li_240, li_255, li_284, li_299, li_603, li_999, li_1200, li_1440, li_4095, li_4096, li_6030, li_16384, li_20160, zl0, zl1, zl2, zl3, zl4, ze01, ze02, ze03, ze04, ze10, ze12, ze13, ze14, ze20, ze21, ze23, ze24, ze30, ze31, ze32, ze34, ze40, ze41, ze42, ze43, zt0, zt1, zt2, zt3, zt4, zq0, zq1, zq2, zq3, zq4, it_t, it_f, Bool.true_eq_false, Bool.false_eq_true, na5, na4, na1441, na2, na10, sx_IOIA, sx_IOIS, sx_IONS, sx_IAIO, sx_IAIS, sx_IANS, sx_ISIO, sx_ISIA, sx_ISNS, sx_NSIO, sx_NSIA, sx_NSIS, c_cR_gS C5.1, nI_eq]
    by_cases be : b.1 = e.1
    · rw [if_pos be, if_pos be]
      obtain ⟨h6, e6, q6, -⟩ := k_failsAt (c := 2) (p := b.2) C5.1 C5.2.1
      simp (maxSteps := 3000000) (disch := first | assumption | omega) only [e6, bO_v, bR_v, bX_l, bX_r, bC_l, bC_r, aLet_v, nI_add, pk_mul, dvI_n, rmI_n, iMax_n, iMin_n, zO_0, zO_1, li_0, li_1, li_2, li_3, li_4, li_5, li_6, li_7, li_8, li_9, li_10, li_12, li_14, li_15, li_16, li_18, li_19, li_20, li_22, li_23, li_24, li_26, li_29, li_30, li_31, li_32, li_36, li_38, li_48, li_50, li_57, li_58, li_59, li_60, li_63, li_97, li_99, li_120, li_122, li_144, li_168, li_194, li_240, li_255, li_284, li_299, li_603, li_999, li_1200, li_1440, li_4095, li_4096, li_6030, li_16384, li_20160, zl0, zl1, zl2, zl3, zl4, ze01, ze02, ze03, ze04, ze10, ze12, ze13, ze14, ze20, ze21, ze23, ze24, ze30, ze31, ze32, ze34, ze40, ze41, ze42, ze43, zt0, zt1, zt2, zt3, zt4, zq0, zq1, zq2, zq3, zq4, it_t, it_f, Bool.true_eq_false, Bool.false_eq_true, na5, na4, na1441, na2, na10, sx_IOIA, sx_IOIS, sx_IONS, sx_IAIO, sx_IAIS, sx_IANS, sx_ISIO, sx_ISIA, sx_ISNS, sx_NSIO, sx_NSIA, sx_NSIS]
      exact cp_inl rfl q6
    · rw [if_neg be, if_neg be]
      refine sb_cp (k_number X hQ C5 (by omega) (by omega)) (fun k h6 ek hh => ?_)
      obtain ⟨C6, R6, g76, -⟩ := hh
      simp (maxSteps := 3000000) (disch := first | assumption | omega) only [c_cR_gi C6.1, g76, bO_v, bR_v, bX_l, bX_r, bC_l, bC_r, aLet_v, nI_add, pk_mul, dvI_n, rmI_n, iMax_n, iMin_n, zO_0, zO_1, li_0, li_1, li_2, li_3, li_4, li_5, li_6, li_7, li_8, li_9, li_10, li_12, li_14, li_15, li_16, li_18, li_19, li_20, li_22, li_23, li_24, li_26, li_29, li_30, li_31, li_32, li_36, li_38, li_48, li_50, li_57, li_58, li_59, li_60, li_63, li_97, li_99, li_120, li_122, li_144, li_168, li_194, li_240, li_255, li_284, li_299, li_603, li_999, li_1200, li_1440, li_4095, li_4096, li_6030, li_16384, li_20160, zl0, zl1, zl2, zl3, zl4, ze01, ze02, ze03, ze04, ze10, ze12, ze13, ze14, ze20, ze21, ze23, ze24, ze30, ze31, ze32, ze34, ze40, ze41, ze42, ze43, zt0, zt1, zt2, zt3, zt4, zq0, zq1, zq2, zq3, zq4, it_t, it_f, Bool.true_eq_false, Bool.false_eq_true, na5, na4, na1441, na2, na10, sx_IOIA, sx_IOIS, sx_IONS, sx_IAIO, sx_IAIS, sx_IANS, sx_ISIO, sx_ISIA, sx_ISNS, sx_NSIO, sx_NSIA, sx_NSIS, c_cR_gS C6.1]
      refine sb_cp (k_number X hQ C6 (by omega) (by omega)) (fun l h7 el hh => ?_)
      obtain ⟨C7, R7, g77, -⟩ := hh
      have S7 := C7.1
      have S8 : Sh (h_si h7 (Q + 1) 0 (nI b.1)) := S7.si _ _ _
      have S9 : Sh (h_si (h_si h7 (Q + 1) 0 (nI b.1)) (Q + 1) 1 (nI e.1)) := S8.si _ _ _
      have S10 : Sh (h_si (h_si (h_si h7 (Q + 1) 0 (nI b.1)) (Q + 1) 1 (nI e.1)) (Q + 1) 2 (nI k.1)) := S9.si _ _ _
      simp (maxSteps := 3000000) (disch := first | assumption | omega) only [C7.g2 hQ, p_pN S7 hQ, c_cR_gi S7, g77, bO_v, bR_v, bX_l, bX_r, bC_l, bC_r, aLet_v, nI_add, pk_mul, dvI_n, rmI_n, iMax_n, iMin_n, zO_0, zO_1, li_0, li_1, li_2, li_3, li_4, li_5, li_6, li_7, li_8, li_9, li_10, li_12, li_14, li_15, li_16, li_18, li_19, li_20, li_22, li_23, li_24, li_26, li_29, li_30, li_31, li_32, li_36, li_38, li_48, li_50, li_57, li_58, li_59, li_60, li_63, li_97, li_99, li_120, li_122, li_144, li_168, li_194, li_240, li_255, li_284, li_299, li_603, li_999, li_1200, li_1440, li_4095, li_4096, li_6030, li_16384, li_20160, zl0, zl1, zl2, zl3, zl4, ze01, ze02, ze03, ze04, ze10, ze12, ze13, ze14, ze20, ze21, ze23, ze24, ze30, ze31, ze32, ze34, ze40, ze41, ze42, ze43, zt0, zt1, zt2, zt3, zt4, zq0, zq1, zq2, zq3, zq4, it_t, it_f, Bool.true_eq_false, Bool.false_eq_true, na5, na4, na1441, na2, na10, sx_IOIA, sx_IOIS, sx_IONS, sx_IAIO, sx_IAIS, sx_IANS, sx_ISIO, sx_ISIA, sx_ISNS, sx_NSIO, sx_NSIA, sx_NSIS, p_cN_gS S7 hQ, m_X5_set, p_cN_pi S7 hQ, p_cN_pi S8 hQ, p_cN_pi S9 hQ, p_cN_pi S10 hQ]
      have F : Fx (fun o _ => o = Q + 1) h7 (h_si (h_si (h_si (h_si h7 (Q + 1) 0 (nI b.1)) (Q + 1) 1 (nI e.1)) (Q + 1) 2 (nI k.1)) (Q + 1) 3 (nI l.1)) := (((Fx.si (A := fun o _ => o = Q + 1) rfl).trans (Fx.si (A := fun o _ => o = Q + 1) rfl)).trans (Fx.si (A := fun o _ => o = Q + 1) rfl)).trans (Fx.si (A := fun o _ => o = Q + 1) rfl)
      have c9 : ∀ j, j < 4 → h_iv (h_si (h_si (h_si (h_si h7 (Q + 1) 0 (nI b.1)) (Q + 1) 1 (nI e.1)) (Q + 1) 2 (nI k.1)) (Q + 1) 3 (nI l.1)) (Q + 1) j = nI (put (put (put (put (fun _ _ => 0) 418 0 b.1) 418 1 e.1) 418 2 k.1) 418 3 l.1 418 j) := fun j hj => by
        rcases (show j = 0 ∨ j = 1 ∨ j = 2 ∨ j = 3 by omega) with r | r | r | r <;> subst r
        · rw [si_ne (by omega), si_ne (by omega), si_ne (by omega), si_at, put_n (by omega), put_n (by omega), put_n (by omega), put_e]
        · rw [si_ne (by omega), si_ne (by omega), si_at, put_n (by omega), put_n (by omega), put_e]
        · rw [si_ne (by omega), si_at, put_n (by omega), put_e]
        · rw [si_at, put_e]
      generalize h_si (h_si (h_si (h_si h7 (Q + 1) 0 (nI b.1)) (Q + 1) 1 (nI e.1)) (Q + 1) 2 (nI k.1)) (Q + 1) 3 (nI l.1) = h9 at F c9
      have C9 := C7.qx hQ F (fun o k a => by omega)
      simp only [c_cR_gS C9.1]
      have ks := k_symbol X hQ C9 (t := 3) (Or.inl rfl)
      obtain ⟨r, h10, e10, hh⟩ := ks
      rw [e10, bR_v]
      cases es : sSym tx n l.2 3 with
      | inl er =>
        rw [es] at hh
        obtain ⟨rfl, q10⟩ := hh
        simp (maxSteps := 3000000) (disch := first | assumption | omega) only [bO_v, bR_v, bX_l, bX_r, bC_l, bC_r, aLet_v, nI_add, pk_mul, dvI_n, rmI_n, iMax_n, iMin_n, zO_0, zO_1, li_0, li_1, li_2, li_3, li_4, li_5, li_6, li_7, li_8, li_9, li_10, li_12, li_14, li_15, li_16, li_18, li_19, li_20, li_22, li_23, li_24, li_26, li_29, li_30, li_31, li_32, li_36, li_38, li_48, li_50, li_57, li_58, li_59, li_60, li_63, li_97, li_99, li_120, li_122, li_144, li_168, li_194, li_240, li_255, li_284, li_299, li_603, li_999, li_1200, li_1440, li_4095, li_4096, li_6030, li_16384, li_20160, zl0, zl1, zl2, zl3, zl4, ze01, ze02, ze03, ze04, ze10, ze12, ze13, ze14, ze20, ze21, ze23, ze24, ze30, ze31, ze32, ze34, ze40, ze41, ze42, ze43, zt0, zt1, zt2, zt3, zt4, zq0, zq1, zq2, zq3, zq4, it_t, it_f, Bool.true_eq_false, Bool.false_eq_true, na5, na4, na1441, na2, na10, sx_IOIA, sx_IOIS, sx_IONS, sx_IAIO, sx_IAIS, sx_IANS, sx_ISIO, sx_ISIA, sx_ISNS, sx_NSIO, sx_NSIA, sx_NSIS]
        exact cp_inl rfl q10
      | inr s2 =>
        rw [es] at hh
        obtain ⟨rfl, C10, R10⟩ := hh
        have cl7 : CLr Q h7 := ((((cl.rf R3 hQ).rf R4 hQ).rf R5 hQ).rf R6 hQ).rf R7 hQ
        have iv : ∀ o k, Q ≤ o → o < Q + 65 → o ≠ Q + 1 → h_iv h10 o k = h_iv h7 o k := fun o k q1 q2 q3 => by rw [R10.2.2.2.2.2.1 o k (by omega), F.iv q3]
        obtain ⟨x1, x2, x3, x4, x5, x6, x7⟩ := cl7
        have z : ∀ o k', ¬ (o = 418) → put (put (put (put (fun _ _ => 0) 418 0 b.1) 418 1 e.1) 418 2 k.1) 418 3 l.1 o k' = 0 := fun o k' q => by
          rw [put_n (by omega), put_n (by omega), put_n (by omega), put_n (by omega)]
        have z8 : ∀ {c u : Nat}, u < put (put (put (put (fun _ _ => 0) 418 0 b.1) 418 1 e.1) 418 2 k.1) 418 3 l.1 412 c → False := fun {c u} q => by
          rw [z _ _ (by omega)] at q; omega
        simp (maxSteps := 3000000) (disch := first | assumption | omega) only [bO_v, bR_v, bX_l, bX_r, bC_l, bC_r, aLet_v, nI_add, pk_mul, dvI_n, rmI_n, iMax_n, iMin_n, zO_0, zO_1, li_0, li_1, li_2, li_3, li_4, li_5, li_6, li_7, li_8, li_9, li_10, li_12, li_14, li_15, li_16, li_18, li_19, li_20, li_22, li_23, li_24, li_26, li_29, li_30, li_31, li_32, li_36, li_38, li_48, li_50, li_57, li_58, li_59, li_60, li_63, li_97, li_99, li_120, li_122, li_144, li_168, li_194, li_240, li_255, li_284, li_299, li_603, li_999, li_1200, li_1440, li_4095, li_4096, li_6030, li_16384, li_20160, zl0, zl1, zl2, zl3, zl4, ze01, ze02, ze03, ze04, ze10, ze12, ze13, ze14, ze20, ze21, ze23, ze24, ze30, ze31, ze32, ze34, ze40, ze41, ze42, ze43, zt0, zt1, zt2, zt3, zt4, zq0, zq1, zq2, zq3, zq4, it_t, it_f, Bool.true_eq_false, Bool.false_eq_true, na5, na4, na1441, na2, na10, sx_IOIA, sx_IOIS, sx_IONS, sx_IAIO, sx_IAIS, sx_IANS, sx_ISIO, sx_ISIA, sx_ISNS, sx_NSIO, sx_NSIA, sx_NSIS]
        suffices pq : PQ tx n Q (put (put (put (put (fun _ _ => 0) 418 0 b.1) 418 1 e.1) 418 2 k.1) 418 3 l.1) h10 from cp_inr (a := (put (put (put (put (fun _ _ => 0) 418 0 b.1) 418 1 e.1) 418 2 k.1) 418 3 l.1, s2)) rfl ⟨C10, pq⟩
        refine ⟨?_, ?_, ?_, ?_, ?_⟩
        · refine ⟨fun j hj => ?_, ?_, ?_, ?_, ?_, fun _ q => (z8 q).elim, fun _ q => (z8 q).elim, fun _ q => (z8 q).elim, fun _ q => (z8 q).elim, fun _ q => (z8 q).elim, fun _ q => (z8 q).elim, fun _ q => (z8 q).elim, fun _ q => (z8 q).elim, fun _ q => (z8 q).elim, fun _ q => (z8 q).elim, fun _ q => (z8 q).elim, fun _ q => (z8 q).elim, fun _ q => (z8 q).elim, fun _ q => (z8 q).elim, fun _ q => (z8 q).elim, fun _ q => (z8 q).elim, fun k hk => ?_⟩
          · rw [R10.2.2.2.2.2.1 _ _ (by omega)]; exact c9 j hj
          · rw [iv _ _ (by omega) (by omega) (by omega), z _ _ (by omega)]; exact x1
          · rw [iv _ _ (by omega) (by omega) (by omega), z _ _ (by omega)]; exact x3
          · rw [iv _ _ (by omega) (by omega) (by omega), z _ _ (by omega)]; exact x4
          · rw [iv _ _ (by omega) (by omega) (by omega), z _ _ (by omega)]; exact x5
          · rw [iv _ _ (by omega) (by omega) (by omega), z 412 8 (by omega)]; exact x7 k hk
        · intro so hso i hi
          unfold nmN at hi
          (repeat' split at hi) <;> exact (z8 hi).elim
        · rw [iv _ _ (by omega) (by omega) (by omega), z _ _ (by omega)]; exact x2
        · intro k hk
          rw [iv _ _ (by omega) (by omega) (by omega), z 441 _ (by omega), if_pos rfl]; exact x6 k hk
        · intro g hg; exact (z8 hg).elim
end
