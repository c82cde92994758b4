/-! the class begins anew -/
/-- the first row of a plan -/
def rwM (M : Nat → Nat → Nat) (j : Nat) : Nat := if 50 ≤ j ∧ j < 194 then (if M 441 (j - 50) = 0 then 0 else M 440 (j - 50)) else if 194 ≤ j ∧ j < 284 ∧ (j - 194) % 15 < 8 then M 445 (8 * ((j - 194) / 15) + (j - 194) % 15) else 0
theorem rwM_0 {M : Nat → Nat → Nat} {j : Nat} (h : ¬ (50 ≤ j ∧ j < 284)) : rwM M j = 0 := by
  unfold rwM
  rw [if_neg (by omega), if_neg (by omega)]
theorem rwM_h {M : Nat → Nat → Nat} {g : Nat} (hg : g < 6) {c : Nat} (h1 : 8 ≤ c) (h2 : c < 15) : rwM M (194 + 15 * g + c) = 0 := by
  unfold rwM
  rw [if_neg (by omega), if_neg (by omega)]
theorem rwM_r {M : Nat → Nat → Nat} {g q : Nat} (hg : g < 6) (hq : q < 8) : rwM M (194 + 15 * g + q) = M 445 (8 * g + q) := by
  unfold rwM
  rw [if_neg (by omega), if_pos (by omega), show 8 * ((194 + 15 * g + q - 194) / 15) + (194 + 15 * g + q - 194) % 15 = 8 * g + q by omega]
theorem rwM_t {M : Nat → Nat → Nat} {k : Nat} (hk : k < 144) : rwM M (50 + k) = if M 441 k = 0 then 0 else M 440 k := by
  unfold rwM
  rw [if_pos (by omega), Nat.add_sub_cancel_left]
section
variable {h : aH} {tx : Nat → Nat} {n Q a : Nat} {M : Nat → Nat → Nat}
theorem acp_8 {s t i : Nat} (hs : h_sh h s = 1) (hsl : h_ln h s = 8) (ht : h_sh h t = 1) (htl : h_ln h t = 48) (hi : i < 6) : acp h s (nI 0) t (nI (i * 8)) (nI 8) = some (h_copy h t (va_cpy (h_iv h s) (h_iv h t) 0 (i * 8) 8)) := by
  have t0 : (nI 0).toInt = 0 := rfl
  have tn : (nI 8).toInt = 8 := rfl
  have ti : (nI (i * 8)).toInt = (i * 8 : Nat) := nI_toInt (by omega)
  have c0 : (nI 0).toNatClampNeg = 0 := rfl
  have cn : (nI 8).toNatClampNeg = 8 := rfl
  have ci : (nI (i * 8)).toNatClampNeg = i * 8 := nI_clamp (by omega)
  unfold acp
  rw [t0, tn, ti, c0, cn, ci, hsl, htl]
  exact if_pos ⟨hs, ht, by omega, by omega, by omega, by omega, by omega⟩
theorem mx_t {i : Nat} : iMax (nI 0) (if M 441 i = 0 then -nI 1 else nI (M 440 i)) = nI (if M 441 i = 0 then 0 else M 440 i) ∨ 2147483648 ≤ M 440 i := by
  by_cases c : M 441 i = 0
  · rw [if_pos c, if_pos c]; exact Or.inl (by decide)
  · rw [if_neg c, if_neg c]
    by_cases c2 : M 440 i < 2147483648
    · rw [iMax_n (by omega) c2, Nat.zero_max]; exact Or.inl rfl
    · exact Or.inr (by omega)
theorem st_rng : ∀ a ∈ stL, 134 ≤ a ∧ a + 18 ≤ 412 := by decide +kernel
theorem pin_bits {k e : Nat} : (2 ^ k - 1).testBit e = decide (e < k) := Nat.testBit_two_pow_sub_one k e
theorem k_begin (hS : Sh h) (ha : a ∈ stL) (hQ : Q ∈ plL) (w : WM M) (p : PQ tx n Q M h) (hX : ∃ X, h_iv h (a + 11) 2 = nI X ∧ X < 65536) : OK (m_X10_begin a Q h) (fun _ h1 => Sh h1 ∧ Cq a h h1 ∧ StR h1 a Q M (rwM M)) := by
  have q := pl_in Q hQ
  have ar := st_rng a ha
  obtain ⟨hD, w2, w3, w4, w5, w6⟩ := w
  have d0 := hD.nP
  have d1 := hD.nG
  have d2 := hD.nE
  have np : ∀ q ∈ ptL, ¬ (q.1 = a ∧ q.2.1 = 0) := by
    have hd : ∀ b ∈ stL, ∀ q ∈ ptL, ¬ (q.1 = b ∧ q.2.1 = 0) := by decide +kernel
    exact hd a ha
  have S0 : Sh (h_sr h a 0 Q) := hS.sr _ _ _ np
  have w0 : pr h 10 a 0 Q = some (h_sr h a 0 Q) := pr_ok (s_cS hS ha) (pl_ne0 Q hQ)
  have r0 : h_rv (h_sr h a 0 Q) a 0 = Q := sr_at
  have v0 : h_iv (h_sr h a 0 Q) = h_iv h := rfl
  have k0 : Cq a h (h_sr h a 0 Q) := ⟨rfl, rfl, rfl, rfl, rfl, fun _ _ => rfl, fun o k hk => u2n hk⟩
  simp (maxSteps := 3000000) (disch := first | assumption | omega) only [m_X10_begin, bO_v, bR_v, bX_l, bX_r, bC_l, bC_r, aLet_v, nI_add, pk_mul, dvI_n, rmI_n, iMax_n, iMin_n, zO_0, zO_1, li_0, li_1, li_2, li_3, li_4, li_5, li_6, li_7, li_8, li_9, li_10, li_12, li_14, li_15, li_16, li_18, li_19, li_20, li_22, li_23, li_24, li_26, li_29, li_30, li_31, li_32, li_36, li_38, li_48, li_50, li_57, li_58, li_59, li_60, li_63, li_97, li_99, li_120, li_122, li_144, li_168, li_194, li_240, li_255, li_284, li_299, li_603, li_999, li_1200, li_1440, li_4095, li_4096, li_6030, li_16384, li_20160, zl0, zl1, zl2, zl3, zl4, ze01, ze02, ze03, ze04, ze10, ze12, ze13, ze14, ze20, ze21, ze23, ze24, ze30, ze31, ze32, ze34, ze40, ze41, ze42, ze43, zt0, zt1, zt2, zt3, zt4, zq0, zq1, zq2, zq3, zq4, it_t, it_f, Bool.true_eq_false, Bool.false_eq_true, na5, na4, na1441, na2, na10, sx_IOIA, sx_IOIS, sx_IONS, sx_IAIO, sx_IAIS, sx_IANS, sx_ISIO, sx_ISIA, sx_ISNS, sx_NSIO, sx_NSIA, sx_NSIS, w0]
  generalize h_sr h a 0 Q = g0 at *
  have S1 : Sh (h_si g0 a 1 (nI 0)) := S0.si _ _ _
  have F1 : Fx (fun o k => o = a ∧ k = 1) g0 (h_si g0 a 1 (nI 0)) := Fx.si ⟨rfl, rfl⟩
  have t1 : h_iv (h_si g0 a 1 (nI 0)) a 1 = nI 0 := si_at
  simp (maxSteps := 3000000) (disch := first | assumption | omega) only [bO_v, bR_v, bX_l, bX_r, bC_l, bC_r, aLet_v, nI_add, pk_mul, dvI_n, rmI_n, iMax_n, iMin_n, zO_0, zO_1, li_0, li_1, li_2, li_3, li_4, li_5, li_6, li_7, li_8, li_9, li_10, li_12, li_14, li_15, li_16, li_18, li_19, li_20, li_22, li_23, li_24, li_26, li_29, li_30, li_31, li_32, li_36, li_38, li_48, li_50, li_57, li_58, li_59, li_60, li_63, li_97, li_99, li_120, li_122, li_144, li_168, li_194, li_240, li_255, li_284, li_299, li_603, li_999, li_1200, li_1440, li_4095, li_4096, li_6030, li_16384, li_20160, zl0, zl1, zl2, zl3, zl4, ze01, ze02, ze03, ze04, ze10, ze12, ze13, ze14, ze20, ze21, ze23, ze24, ze30, ze31, ze32, ze34, ze40, ze41, ze42, ze43, zt0, zt1, zt2, zt3, zt4, zq0, zq1, zq2, zq3, zq4, it_t, it_f, Bool.true_eq_false, Bool.false_eq_true, na5, na4, na1441, na2, na10, sx_IOIA, sx_IOIS, sx_IONS, sx_IAIO, sx_IAIS, sx_IANS, sx_ISIO, sx_ISIA, sx_ISNS, sx_NSIO, sx_NSIA, sx_NSIS, s_cS_pi S0 ha, s_plost S1 ha]
  generalize h_si g0 a 1 (nI 0) = g1 at *
  refine ok_bR (k_fill (s_clost S1 ha).1 (s_clost S1 ha).2 (by decide)) (fun _ g2 hh => ?_)
  obtain ⟨F2, f2⟩ := hh
  have S2 := F2.fx.sh S1
  simp (maxSteps := 3000000) (disch := first | assumption | omega) only [bO_v, bR_v, bX_l, bX_r, bC_l, bC_r, aLet_v, nI_add, pk_mul, dvI_n, rmI_n, iMax_n, iMin_n, zO_0, zO_1, li_0, li_1, li_2, li_3, li_4, li_5, li_6, li_7, li_8, li_9, li_10, li_12, li_14, li_15, li_16, li_18, li_19, li_20, li_22, li_23, li_24, li_26, li_29, li_30, li_31, li_32, li_36, li_38, li_48, li_50, li_57, li_58, li_59, li_60, li_63, li_97, li_99, li_120, li_122, li_144, li_168, li_194, li_240, li_255, li_284, li_299, li_603, li_999, li_1200, li_1440, li_4095, li_4096, li_6030, li_16384, li_20160, zl0, zl1, zl2, zl3, zl4, ze01, ze02, ze03, ze04, ze10, ze12, ze13, ze14, ze20, ze21, ze23, ze24, ze30, ze31, ze32, ze34, ze40, ze41, ze42, ze43, zt0, zt1, zt2, zt3, zt4, zq0, zq1, zq2, zq3, zq4, it_t, it_f, Bool.true_eq_false, Bool.false_eq_true, na5, na4, na1441, na2, na10, sx_IOIA, sx_IOIS, sx_IONS, sx_IAIO, sx_IAIS, sx_IANS, sx_ISIO, sx_ISIA, sx_ISNS, sx_NSIO, sx_NSIA, sx_NSIS, s_pout S2 ha]
  refine ok_bR (k_fill (s_cout S2 ha).1 (s_cout S2 ha).2 (by decide)) (fun _ g3 hh => ?_)
  obtain ⟨F3, f3⟩ := hh
  have S3 := F3.fx.sh S2
  simp (maxSteps := 3000000) (disch := first | assumption | omega) only [bO_v, bR_v, bX_l, bX_r, bC_l, bC_r, aLet_v, nI_add, pk_mul, dvI_n, rmI_n, iMax_n, iMin_n, zO_0, zO_1, li_0, li_1, li_2, li_3, li_4, li_5, li_6, li_7, li_8, li_9, li_10, li_12, li_14, li_15, li_16, li_18, li_19, li_20, li_22, li_23, li_24, li_26, li_29, li_30, li_31, li_32, li_36, li_38, li_48, li_50, li_57, li_58, li_59, li_60, li_63, li_97, li_99, li_120, li_122, li_144, li_168, li_194, li_240, li_255, li_284, li_299, li_603, li_999, li_1200, li_1440, li_4095, li_4096, li_6030, li_16384, li_20160, zl0, zl1, zl2, zl3, zl4, ze01, ze02, ze03, ze04, ze10, ze12, ze13, ze14, ze20, ze21, ze23, ze24, ze30, ze31, ze32, ze34, ze40, ze41, ze42, ze43, zt0, zt1, zt2, zt3, zt4, zq0, zq1, zq2, zq3, zq4, it_t, it_f, Bool.true_eq_false, Bool.false_eq_true, na5, na4, na1441, na2, na10, sx_IOIA, sx_IOIS, sx_IONS, sx_IAIO, sx_IAIS, sx_IANS, sx_ISIO, sx_ISIA, sx_ISNS, sx_NSIO, sx_NSIA, sx_NSIS, s_ppaid S3 ha]
  refine ok_bR (k_fill (s_cpaid S3 ha).1 (s_cpaid S3 ha).2 (by decide)) (fun _ g4 hh => ?_)
  obtain ⟨F4, f4⟩ := hh
  have S4 := F4.fx.sh S3
  have S5 : Sh (h_si g4 a 5 (nI 0)) := S4.si _ _ _
  have F5 : Fx (fun o k => o = a ∧ k = 5) g4 (h_si g4 a 5 (nI 0)) := Fx.si ⟨rfl, rfl⟩
  have t5 : h_iv (h_si g4 a 5 (nI 0)) a 5 = nI 0 := si_at
  simp (maxSteps := 3000000) (disch := first | assumption | omega) only [bO_v, bR_v, bX_l, bX_r, bC_l, bC_r, aLet_v, nI_add, pk_mul, dvI_n, rmI_n, iMax_n, iMin_n, zO_0, zO_1, li_0, li_1, li_2, li_3, li_4, li_5, li_6, li_7, li_8, li_9, li_10, li_12, li_14, li_15, li_16, li_18, li_19, li_20, li_22, li_23, li_24, li_26, li_29, li_30, li_31, li_32, li_36, li_38, li_48, li_50, li_57, li_58, li_59, li_60, li_63, li_97, li_99, li_120, li_122, li_144, li_168, li_194, li_240, li_255, li_284, li_299, li_603, li_999, li_1200, li_1440, li_4095, li_4096, li_6030, li_16384, li_20160, zl0, zl1, zl2, zl3, zl4, ze01, ze02, ze03, ze04, ze10, ze12, ze13, ze14, ze20, ze21, ze23, ze24, ze30, ze31, ze32, ze34, ze40, ze41, ze42, ze43, zt0, zt1, zt2, zt3, zt4, zq0, zq1, zq2, zq3, zq4, it_t, it_f, Bool.true_eq_false, Bool.false_eq_true, na5, na4, na1441, na2, na10, sx_IOIA, sx_IOIS, sx_IONS, sx_IAIO, sx_IAIS, sx_IANS, sx_ISIO, sx_ISIA, sx_ISNS, sx_NSIO, sx_NSIA, sx_NSIS, s_cS_pi S4 ha]
  generalize h_si g4 a 5 (nI 0) = g5 at *
  have G5 : Fx (fun o _ => a ≤ o ∧ o < a + 18) g0 g5 := ((((F1.mono (fun o k r => by omega)).trans (F2.fx.mono (fun o k r => by omega))).trans (F3.fx.mono (fun o k r => by omega))).trans (F4.fx.mono (fun o k r => by omega))).trans (F5.mono (fun o k r => by omega))
  have pq : ∀ {g}, Fx (fun o _ => a ≤ o ∧ o < a + 18) g0 g → ∀ o k, Q ≤ o → o < Q + 65 → h_iv g o k = h_iv h o k := fun G o k q1 q2 => by
    rw [G.iv (by omega), k0.2.2.2.2.2.1 o (by omega)]
  have rq : ∀ {g}, Sh g → Fx (fun o _ => a ≤ o ∧ o < a + 18) g0 g → gr g 10 a 0 = some Q := fun Sg G => gr_ok9 (s_cS Sg ha) (by rw [G.2.2.2.2.1]; exact r0) (pl_ne0 Q hQ)
  generalize hK : (fun (_ : Unit) (h1 : aH) => Sh h1 ∧ Cq a h h1 ∧ StR h1 a Q M (rwM M)) = K
  refine aJ_gen (R := fun o => OK o K) (fun k75 hk75 => ?_)
  refine aL1_run (R := fun o => OK o K) (fun m s1 g => ∃ i, i ≤ 144 ∧ m = 144 - i ∧ s1 = nI i ∧ Fx (fun o _ => o = a + 4) g5 g ∧ ∀ k, k < i → h_iv g (a + 4) k = nI (if M 441 k = 0 then 0 else M 440 k)) ⟨0, Nat.zero_le _, rfl, rfl, Fx.rf, fun k r => absurd r (Nat.not_lt_zero k)⟩ (by omega) ?_
  rintro rec m s1 g6 ⟨i, hi, rfl, rfl, F6, f6⟩ ih
  have S6 := F6.sh S5
  have G6 := G5.trans (F6.mono (fun o k r => by omega))
  by_cases hlt : i < 144
  · have tr : h_iv g6 (Q + 3) i = if M 441 i = 0 then -nI 1 else nI (M 440 i) := by rw [pq G6 _ _ (by omega) (by omega)]; exact p.2.2.2.1 i hlt
    have mx : iMax (nI 0) (if M 441 i = 0 then -nI 1 else nI (M 440 i)) = nI (if M 441 i = 0 then 0 else M 440 i) := by
      have := w3 i
      rcases mx_t (M := M) (i := i) with r | r
      · exact r
      · omega
    simp (maxSteps := 3000000) (disch := first | assumption | omega) only [m_X10_begin_L41, bO_v, bR_v, bX_l, bX_r, bC_l, bC_r, aLet_v, nI_add, pk_mul, dvI_n, rmI_n, iMax_n, iMin_n, zO_0, zO_1, li_0, li_1, li_2, li_3, li_4, li_5, li_6, li_7, li_8, li_9, li_10, li_12, li_14, li_15, li_16, li_18, li_19, li_20, li_22, li_23, li_24, li_26, li_29, li_30, li_31, li_32, li_36, li_38, li_48, li_50, li_57, li_58, li_59, li_60, li_63, li_97, li_99, li_120, li_122, li_144, li_168, li_194, li_240, li_255, li_284, li_299, li_603, li_999, li_1200, li_1440, li_4095, li_4096, li_6030, li_16384, li_20160, zl0, zl1, zl2, zl3, zl4, ze01, ze02, ze03, ze04, ze10, ze12, ze13, ze14, ze20, ze21, ze23, ze24, ze30, ze31, ze32, ze34, ze40, ze41, ze42, ze43, zt0, zt1, zt2, zt3, zt4, zq0, zq1, zq2, zq3, zq4, it_t, it_f, Bool.true_eq_false, Bool.false_eq_true, na5, na4, na1441, na2, na10, sx_IOIA, sx_IOIS, sx_IONS, sx_IAIO, sx_IAIS, sx_IANS, sx_ISIO, sx_ISIA, sx_ISNS, sx_NSIO, sx_NSIA, sx_NSIS, s_ptrust S6 ha, s_ctrust_ln S6 ha, nI_ltI, rq S6 G6, p_ptr S6 hQ, p_ctr_al S6 hQ, tr, mx, s_ctrust_as S6 ha]
    rw [if_pos hlt]
    refine ih _ _ _ (by omega) ⟨i + 1, hlt, rfl, rfl, F6.trans (Fx.si (A := fun o _ => o = a + 4) rfl), fun k hk => ?_⟩
    by_cases c : k = i
    · rw [c, si_at]
    · rw [si_ne (by omega)]; exact f6 k (by omega)
  · obtain rfl : i = 144 := by omega
    simp (maxSteps := 3000000) (disch := first | assumption | omega) only [m_X10_begin_L41, bO_v, bR_v, bX_l, bX_r, bC_l, bC_r, aLet_v, nI_add, pk_mul, dvI_n, rmI_n, iMax_n, iMin_n, zO_0, zO_1, li_0, li_1, li_2, li_3, li_4, li_5, li_6, li_7, li_8, li_9, li_10, li_12, li_14, li_15, li_16, li_18, li_19, li_20, li_22, li_23, li_24, li_26, li_29, li_30, li_31, li_32, li_36, li_38, li_48, li_50, li_57, li_58, li_59, li_60, li_63, li_97, li_99, li_120, li_122, li_144, li_168, li_194, li_240, li_255, li_284, li_299, li_603, li_999, li_1200, li_1440, li_4095, li_4096, li_6030, li_16384, li_20160, zl0, zl1, zl2, zl3, zl4, ze01, ze02, ze03, ze04, ze10, ze12, ze13, ze14, ze20, ze21, ze23, ze24, ze30, ze31, ze32, ze34, ze40, ze41, ze42, ze43, zt0, zt1, zt2, zt3, zt4, zq0, zq1, zq2, zq3, zq4, it_t, it_f, Bool.true_eq_false, Bool.false_eq_true, na5, na4, na1441, na2, na10, sx_IOIA, sx_IOIS, sx_IONS, sx_IAIO, sx_IAIS, sx_IANS, sx_ISIO, sx_ISIA, sx_ISNS, sx_NSIO, sx_NSIA, sx_NSIS, s_ptrust S6 ha, s_ctrust_ln S6 ha, nI_ltI]
    rw [if_neg hlt, hk75]
    refine aJ_gen (R := fun o => OK o K) (fun k120 hk120 => ?_)
    clear ih rec
    refine aL1_run (R := fun o => OK o K) (fun m s1 g => ∃ i, i ≤ M 412 9 ∧ m = M 412 9 - i ∧ s1 = nI i ∧ Fr (fun o => o = a + 5) g6 g ∧ ∀ u, u < i → ∀ j, j < 8 → h_iv g (a + 5) (u * 8 + j) = h_iv h (Q + 21 + 2 * u) j) ⟨0, Nat.zero_le _, rfl, rfl, Fr.rf, fun k r => absurd r (Nat.not_lt_zero k)⟩ (by omega) ?_
    rintro rec m s1 g7 ⟨i, hi, rfl, rfl, F7, f7⟩ ih
    have S7 := F7.fx.sh S6
    have G7 := G6.trans (F7.fx.mono (fun o k r => by omega))
    have c5 : h_iv g7 Q 5 = nI (M 412 9) := by rw [pq G7 _ _ (by omega) (by omega)]; exact p.1.nG
    by_cases hlt : i < M 412 9
    · have ac := acp_8 (p_egr S7 hQ (i := i) (by omega)).1 (p_egr S7 hQ (i := i) (by omega)).2 (s_crot S7 ha).1 (s_crot S7 ha).2 (i := i) (by omega)
      simp (maxSteps := 3000000) (disch := first | assumption | omega) only [m_X10_begin_L77, bO_v, bR_v, bX_l, bX_r, bC_l, bC_r, aLet_v, nI_add, pk_mul, dvI_n, rmI_n, iMax_n, iMin_n, zO_0, zO_1, li_0, li_1, li_2, li_3, li_4, li_5, li_6, li_7, li_8, li_9, li_10, li_12, li_14, li_15, li_16, li_18, li_19, li_20, li_22, li_23, li_24, li_26, li_29, li_30, li_31, li_32, li_36, li_38, li_48, li_50, li_57, li_58, li_59, li_60, li_63, li_97, li_99, li_120, li_122, li_144, li_168, li_194, li_240, li_255, li_284, li_299, li_603, li_999, li_1200, li_1440, li_4095, li_4096, li_6030, li_16384, li_20160, zl0, zl1, zl2, zl3, zl4, ze01, ze02, ze03, ze04, ze10, ze12, ze13, ze14, ze20, ze21, ze23, ze24, ze30, ze31, ze32, ze34, ze40, ze41, ze42, ze43, zt0, zt1, zt2, zt3, zt4, zq0, zq1, zq2, zq3, zq4, it_t, it_f, Bool.true_eq_false, Bool.false_eq_true, na5, na4, na1441, na2, na10, sx_IOIA, sx_IOIS, sx_IONS, sx_IAIO, sx_IAIS, sx_IANS, sx_ISIO, sx_ISIA, sx_ISNS, sx_NSIO, sx_NSIA, sx_NSIS, rq S7 G7, p_cP_gi S7 hQ, c5, nI_ltI, p_pgs S7 hQ, p_eg_al S7 hQ, p_egr_p S7 hQ, s_prot S7 ha, ac]
      rw [if_pos hlt]
      refine ih _ _ _ (by omega) ⟨i + 1, hlt, rfl, rfl, F7.trans (Fr.copy rfl), fun u hu j hj => ?_⟩
      show (if a + 5 = a + 5 then va_cpy (h_iv g7 (Q + 21 + 2 * i)) (h_iv g7 (a + 5)) 0 (i * 8) 8 else h_iv g7 (a + 5)) (u * 8 + j) = _
      rw [if_pos rfl]
      unfold va_cpy
      by_cases c : u = i
      · rw [if_pos (by omega), c, pq G7 _ _ (by omega) (by omega)]
        congr 1
        omega
      · rw [if_neg (by omega)]; exact f7 u (by omega) j hj
    · obtain rfl : i = M 412 9 := by omega
      simp (maxSteps := 3000000) (disch := first | assumption | omega) only [m_X10_begin_L77, bO_v, bR_v, bX_l, bX_r, bC_l, bC_r, aLet_v, nI_add, pk_mul, dvI_n, rmI_n, iMax_n, iMin_n, zO_0, zO_1, li_0, li_1, li_2, li_3, li_4, li_5, li_6, li_7, li_8, li_9, li_10, li_12, li_14, li_15, li_16, li_18, li_19, li_20, li_22, li_23, li_24, li_26, li_29, li_30, li_31, li_32, li_36, li_38, li_48, li_50, li_57, li_58, li_59, li_60, li_63, li_97, li_99, li_120, li_122, li_144, li_168, li_194, li_240, li_255, li_284, li_299, li_603, li_999, li_1200, li_1440, li_4095, li_4096, li_6030, li_16384, li_20160, zl0, zl1, zl2, zl3, zl4, ze01, ze02, ze03, ze04, ze10, ze12, ze13, ze14, ze20, ze21, ze23, ze24, ze30, ze31, ze32, ze34, ze40, ze41, ze42, ze43, zt0, zt1, zt2, zt3, zt4, zq0, zq1, zq2, zq3, zq4, it_t, it_f, Bool.true_eq_false, Bool.false_eq_true, na5, na4, na1441, na2, na10, sx_IOIA, sx_IOIS, sx_IONS, sx_IAIO, sx_IAIS, sx_IANS, sx_ISIO, sx_ISIA, sx_ISNS, sx_NSIO, sx_NSIA, sx_NSIS, rq S7 G7, p_cP_gi S7 hQ, c5, nI_ltI]
      rw [if_neg hlt, hk120]
      simp (maxSteps := 3000000) (disch := first | assumption | omega) only [bO_v, bR_v, bX_l, bX_r, bC_l, bC_r, aLet_v, nI_add, pk_mul, dvI_n, rmI_n, iMax_n, iMin_n, zO_0, zO_1, li_0, li_1, li_2, li_3, li_4, li_5, li_6, li_7, li_8, li_9, li_10, li_12, li_14, li_15, li_16, li_18, li_19, li_20, li_22, li_23, li_24, li_26, li_29, li_30, li_31, li_32, li_36, li_38, li_48, li_50, li_57, li_58, li_59, li_60, li_63, li_97, li_99, li_120, li_122, li_144, li_168, li_194, li_240, li_255, li_284, li_299, li_603, li_999, li_1200, li_1440, li_4095, li_4096, li_6030, li_16384, li_20160, zl0, zl1, zl2, zl3, zl4, ze01, ze02, ze03, ze04, ze10, ze12, ze13, ze14, ze20, ze21, ze23, ze24, ze30, ze31, ze32, ze34, ze40, ze41, ze42, ze43, zt0, zt1, zt2, zt3, zt4, zq0, zq1, zq2, zq3, zq4, it_t, it_f, Bool.true_eq_false, Bool.false_eq_true, na5, na4, na1441, na2, na10, sx_IOIA, sx_IOIS, sx_IONS, sx_IAIO, sx_IAIS, sx_IANS, sx_ISIO, sx_ISIA, sx_ISNS, sx_NSIO, sx_NSIA, sx_NSIS, s_phands S7 ha]
      refine ok_bR (k_fill (s_chands S7 ha).1 (s_chands S7 ha).2 (by decide)) (fun _ g8 hh => ?_)
      obtain ⟨F8, f8⟩ := hh
      have S8 := F8.fx.sh S7
      simp (maxSteps := 3000000) (disch := first | assumption | omega) only [bO_v, bR_v, bX_l, bX_r, bC_l, bC_r, aLet_v, nI_add, pk_mul, dvI_n, rmI_n, iMax_n, iMin_n, zO_0, zO_1, li_0, li_1, li_2, li_3, li_4, li_5, li_6, li_7, li_8, li_9, li_10, li_12, li_14, li_15, li_16, li_18, li_19, li_20, li_22, li_23, li_24, li_26, li_29, li_30, li_31, li_32, li_36, li_38, li_48, li_50, li_57, li_58, li_59, li_60, li_63, li_97, li_99, li_120, li_122, li_144, li_168, li_194, li_240, li_255, li_284, li_299, li_603, li_999, li_1200, li_1440, li_4095, li_4096, li_6030, li_16384, li_20160, zl0, zl1, zl2, zl3, zl4, ze01, ze02, ze03, ze04, ze10, ze12, ze13, ze14, ze20, ze21, ze23, ze24, ze30, ze31, ze32, ze34, ze40, ze41, ze42, ze43, zt0, zt1, zt2, zt3, zt4, zq0, zq1, zq2, zq3, zq4, it_t, it_f, Bool.true_eq_false, Bool.false_eq_true, na5, na4, na1441, na2, na10, sx_IOIA, sx_IOIS, sx_IONS, sx_IAIO, sx_IAIS, sx_IANS, sx_ISIO, sx_ISIA, sx_ISNS, sx_NSIO, sx_NSIA, sx_NSIS, s_pret S8 ha]
      refine ok_bR (k_fill (s_cret S8 ha).1 (s_cret S8 ha).2 (by decide)) (fun _ g9 hh => ?_)
      obtain ⟨F9, f9⟩ := hh
      have S9 := F9.fx.sh S8
      have G9 := (G7.trans (F8.fx.mono (fun o k r => by omega))).trans (F9.fx.mono (fun o k r => by omega))
      have c7 : h_iv g9 Q 7 = nI (M 412 10) := by rw [pq G9 _ _ (by omega) (by omega)]; exact p.1.nE
      have pw : 2 ^ M 412 10 ≤ 2 ^ 5 := Nat.pow_le_pow_right (by decide) (by omega)
      have pw1 : 1 ≤ 2 ^ M 412 10 := Nat.one_le_two_pow
      have p5 : (2 : Nat) ^ 5 = 32 := by decide
      have sb1 : nI (2 ^ M 412 10) - nI 1 = nI (2 ^ M 412 10 - 1) := pk_sub pw1
      have S10 : Sh (h_si g9 a 13 (nI (2 ^ M 412 10 - 1))) := S9.si _ _ _
      have F10 : Fx (fun o k => o = a ∧ k = 13) g9 (h_si g9 a 13 (nI (2 ^ M 412 10 - 1))) := Fx.si ⟨rfl, rfl⟩
      have t10 : h_iv (h_si g9 a 13 (nI (2 ^ M 412 10 - 1))) a 13 = nI (2 ^ M 412 10 - 1) := si_at
      simp (maxSteps := 3000000) (disch := first | assumption | omega) only [bO_v, bR_v, bX_l, bX_r, bC_l, bC_r, aLet_v, nI_add, pk_mul, dvI_n, rmI_n, iMax_n, iMin_n, zO_0, zO_1, li_0, li_1, li_2, li_3, li_4, li_5, li_6, li_7, li_8, li_9, li_10, li_12, li_14, li_15, li_16, li_18, li_19, li_20, li_22, li_23, li_24, li_26, li_29, li_30, li_31, li_32, li_36, li_38, li_48, li_50, li_57, li_58, li_59, li_60, li_63, li_97, li_99, li_120, li_122, li_144, li_168, li_194, li_240, li_255, li_284, li_299, li_603, li_999, li_1200, li_1440, li_4095, li_4096, li_6030, li_16384, li_20160, zl0, zl1, zl2, zl3, zl4, ze01, ze02, ze03, ze04, ze10, ze12, ze13, ze14, ze20, ze21, ze23, ze24, ze30, ze31, ze32, ze34, ze40, ze41, ze42, ze43, zt0, zt1, zt2, zt3, zt4, zq0, zq1, zq2, zq3, zq4, it_t, it_f, Bool.true_eq_false, Bool.false_eq_true, na5, na4, na1441, na2, na10, sx_IOIA, sx_IOIS, sx_IONS, sx_IAIO, sx_IAIS, sx_IANS, sx_ISIO, sx_ISIA, sx_ISNS, sx_NSIO, sx_NSIA, sx_NSIS, rq S9 G9, p_cP_gi S9 hQ, c7, shl1_n, sb1, s_cS_pi S9 ha, s_plog S10 ha]
      generalize h_si g9 a 13 (nI (2 ^ M 412 10 - 1)) = g10 at *
      simp (maxSteps := 3000000) (disch := first | assumption | omega) only [bO_v, bR_v, bX_l, bX_r, bC_l, bC_r, aLet_v, nI_add, pk_mul, dvI_n, rmI_n, iMax_n, iMin_n, zO_0, zO_1, li_0, li_1, li_2, li_3, li_4, li_5, li_6, li_7, li_8, li_9, li_10, li_12, li_14, li_15, li_16, li_18, li_19, li_20, li_22, li_23, li_24, li_26, li_29, li_30, li_31, li_32, li_36, li_38, li_48, li_50, li_57, li_58, li_59, li_60, li_63, li_97, li_99, li_120, li_122, li_144, li_168, li_194, li_240, li_255, li_284, li_299, li_603, li_999, li_1200, li_1440, li_4095, li_4096, li_6030, li_16384, li_20160, zl0, zl1, zl2, zl3, zl4, ze01, ze02, ze03, ze04, ze10, ze12, ze13, ze14, ze20, ze21, ze23, ze24, ze30, ze31, ze32, ze34, ze40, ze41, ze42, ze43, zt0, zt1, zt2, zt3, zt4, zq0, zq1, zq2, zq3, zq4, it_t, it_f, Bool.true_eq_false, Bool.false_eq_true, na5, na4, na1441, na2, na10, sx_IOIA, sx_IOIS, sx_IONS, sx_IAIO, sx_IAIS, sx_IANS, sx_ISIO, sx_ISIA, sx_ISNS, sx_NSIO, sx_NSIA, sx_NSIS, s_cL_pi S10 ha]
      have F11 : Fx (fun o k => o = a + 11 ∧ k = 0) g10 (h_si g10 (a + 11) 0 (nI 0)) := Fx.si ⟨rfl, rfl⟩
      have t11 : h_iv (h_si g10 (a + 11) 0 (nI 0)) (a + 11) 0 = nI 0 := si_at
      generalize h_si g10 (a + 11) 0 (nI 0) = g11 at *
      have G11 := (G9.trans (F10.mono (fun o k r => by omega))).trans (F11.mono (fun o k r => by omega))
      have S11 := F11.sh S10
      rw [← hK]
      have H9 : Fx (fun o k => o = a + 6 ∨ o = a + 9 ∨ (o = a ∧ k = 13) ∨ (o = a + 11 ∧ k = 0)) g7 g11 := (((F8.fx.mono (fun o k r => by omega)).trans (F9.fx.mono (fun o k r => by omega))).trans (F10.mono (fun o k r => by omega))).trans (F11.mono (fun o k r => by omega))
      have H6 : Fx (fun o k => o = a + 5 ∨ o = a + 6 ∨ o = a + 9 ∨ (o = a ∧ k = 13) ∨ (o = a + 11 ∧ k = 0)) g6 g11 := (F7.fx.mono (fun o k r => by omega)).trans (H9.mono (fun o k r => by omega))
      have H5 : Fx (fun o k => o = a + 4 ∨ o = a + 5 ∨ o = a + 6 ∨ o = a + 9 ∨ (o = a ∧ k = 13) ∨ (o = a + 11 ∧ k = 0)) g5 g11 := (F6.mono (fun o k r => by omega)).trans (H6.mono (fun o k r => by omega))
      have i1 : h_iv g11 a 1 = nI 0 := by rw [H5.iv (by omega), F5.iv (by omega), F4.fx.iv (by omega), F3.fx.iv (by omega), F2.fx.iv (by omega)]; exact t1
      have i2 : ∀ k, k < 12 → h_iv g11 (a + 1) k = nI 0 := fun k hk => by rw [H5.iv (by omega), F5.iv (by omega), F4.fx.iv (by omega), F3.fx.iv (by omega)]; exact f2 k hk
      have i3 : ∀ k, k < 12 → h_iv g11 (a + 2) k = nI 0 := fun k hk => by rw [H5.iv (by omega), F5.iv (by omega), F4.fx.iv (by omega)]; exact f3 k hk
      have i4 : ∀ k, k < 12 → h_iv g11 (a + 3) k = nI 0 := fun k hk => by rw [H5.iv (by omega), F5.iv (by omega)]; exact f4 k hk
      have i5 : h_iv g11 a 5 = nI 0 := by rw [H5.iv (by omega)]; exact t5
      have i6 : ∀ k, k < 144 → h_iv g11 (a + 4) k = nI (if M 441 k = 0 then 0 else M 440 k) := fun k hk => by rw [H6.iv (by omega)]; exact f6 k hk
      have i7 : ∀ u, u < M 412 9 → ∀ j, j < 8 → h_iv g11 (a + 5) (u * 8 + j) = h_iv h (Q + 21 + 2 * u) j := fun u hu j hj => by rw [H9.iv (by omega)]; exact f7 u hu j hj
      have i8 : ∀ k, k < 6 → h_iv g11 (a + 6) k = nI 0 := fun k hk => by rw [F11.iv (by omega), F10.iv (by omega), F9.fx.iv (by omega)]; exact f8 k hk
      have i9 : ∀ k, k < 5 → h_iv g11 (a + 9) k = nI 0 := fun k hk => by rw [F11.iv (by omega), F10.iv (by omega)]; exact f9 k hk
      have i13 : h_iv g11 a 13 = nI (2 ^ M 412 10 - 1) := by rw [F11.iv (by omega)]; exact t10
      have i112 : h_iv g11 (a + 11) 2 = h_iv h (a + 11) 2 := by rw [H5.iv (by omega), F5.iv (by omega), F4.fx.iv (by omega), F3.fx.iv (by omega), F2.fx.iv (by omega), F1.iv (by omega)]; exact congrFun (congrFun v0 (a + 11)) 2
      refine ok_ret ⟨S11, ?_, ?_⟩
      · obtain ⟨y1, y2, y3, y4, y5, y6, y7⟩ := k0
        obtain ⟨x1, x2, x3, x4, x5, x6, x7⟩ := G11
        exact ⟨x1.trans y1, x2.trans y2, x3.trans y3, x4.trans y4, x6.trans y5, fun o ho => funext fun k => (x7 o k ho).trans (congrFun (y6 o ho) k), fun o k ho => by rw [x5]; exact y7 o k ho⟩
      · have r1 : rwM M 1 = 0 := rwM_0 (by omega)
        have z1 : ∀ {c}, c < rwM M 1 → False := fun q => by rw [r1] at q; omega
        have zh : ∀ {g k}, g < M 412 9 → k < rwM M (194 + 15 * g + 8) → False := fun hg q => by rw [rwM_h (by omega) (by omega) (by omega)] at q; omega
        refine ⟨by rw [G11.2.2.2.2.1]; exact r0, ?_, fun u hu => ?_, fun u hu => ?_, fun u hu => ?_, ⟨0, i5, by omega, fun u hu => ?_, fun u hu => Nat.zero_testBit u⟩, fun u hu v hv => ?_, fun u hu v hv => ?_, fun u hu => ?_, fun u hu k hk => (zh hu hk).elim, fun u hu k hk => (zh hu hk).elim, fun u hu => ?_, fun u hu k => ?_, ⟨2 ^ M 412 10 - 1, i13, by omega, fun u hu => ?_, fun u hu => ?_⟩, ?_, fun _ q => (z1 q).elim, ?_, fun _ q => (z1 q).elim, fun _ q => (z1 q).elim, fun _ q => (z1 q).elim, fun _ q => (z1 q).elim, fun _ q => (z1 q).elim⟩
        · rw [rwM_0 (by omega)]; exact i1
        · rw [rwM_0 (by omega)]; exact i2 u (by omega)
        · rw [rwM_0 (by omega)]; exact i3 u (by omega)
        · rw [rwM_0 (by omega)]; exact i4 u (by omega)
        · rw [rwM_0 (by omega), Nat.zero_testBit]; rfl
        · rw [show 50 + 12 * u + v = 50 + (12 * u + v) by omega, rwM_t (by omega), i6 _ (by omega), show u * 12 + v = 12 * u + v by omega]
        · have pc := hD.plc u hu
          rw [rwM_r (by omega) (by omega), i7 u hu v (by omega)]
          exact p.2.2.2.2 u hu v hv
        · rw [rwM_h (by omega) (by omega) (by omega)]; exact i8 u (by omega)
        · rw [rwM_0 (by omega)]; exact i9 u (by omega)
        · rw [rwM_0 (by omega), rwM_0 (by omega)] at k; omega
        · rw [rwM_0 (by omega), pin_bits]
          exact decide_eq_decide.mpr (by omega)
        · rw [pin_bits]; exact decide_eq_false (by omega)
        · rw [r1]; exact t11
        · obtain ⟨X, x1, x2⟩ := hX
          exact ⟨X, i112.trans x1, x2, fun _ q => (z1 q).elim⟩
end
