/-! the reference loads -/
/-- what a load of the reference leaves -/
def LR (tx : Nat → Nat) (n : Nat) (h : aH) (r : Int32) (h1 : aH) : Prop := Sh h1 ∧ JN h1 ∧ h_iv h1 412 29 = nI 0 ∧ (h_nx h1 = h_nx h ∧ h_sl h1 = h_sl h ∧ h_sh h1 = h_sh h ∧ h_ln h1 = h_ln h ∧ h_rv h1 = h_rv h) ∧ (∀ o k, ¬ (RX o k ∨ TKc o k ∨ (o = 412 ∧ (k = 0 ∨ k = 29))) → h_iv h1 o k = h_iv h o k) ∧ (∀ o k, ¬ ((o = 412 ∧ k = 36) ∨ o = 437 ∨ o = 419) → h_lv h1 o k = h_lv h o k) ∧ match sText tx n with
  | .inl e => r = nI 0 ∧ h_iv h1 412 0 = nI 1 ∧ h_iv h1 412 31 = nI e.1 ∧ h_iv h1 412 32 = nI e.2 ∧ (∀ o k, TKc o k → h_iv h1 o k = h_iv h o k) ∧ ∀ k, h_lv h1 419 k = h_lv h 419 k
  | .inr M => r = nI (M 412 8) ∧ h_iv h1 412 0 = nI 0 ∧ h_iv h1 412 31 = nI 0 ∧ h_iv h1 412 32 = -nI 1 ∧ WM M ∧ (h_iv h1 412 8 = nI (M 412 8) ∧ h_iv h1 412 9 = nI (M 412 9) ∧ h_iv h1 412 10 = nI (M 412 10) ∧ h_iv h1 412 11 = nI (M 412 11) ∧ h_iv h1 412 6 = nI 0) ∧ (∀ o k, fil M o k → o < 435 → h_iv h1 o k = nI (M o k)) ∧ (∀ so, so < 4 → ∀ i, i < nmN M so → nmd tx n (M 419 (nmB so + i)) = true ∧ h_lv h1 419 (nmB so + i) = lN (cd tx n (M 419 (nmB so + i)))) ∧ (∀ j, j < 603 → ¬ (194 ≤ j ∧ j < 284 ∧ (j - 194) % 15 < 8) → h_iv h1 413 j = nI (rwM M j)) ∧ (∀ g, g < M 412 9 → ∀ q, q < M 424 g → h_iv h1 413 (194 + 15 * g + q) = nI (M 445 (8 * g + q))) ∧ (∀ s, s < 2 → h_iv h1 417 s = nI 0) ∧ ∀ o k, (o = 413 ∧ k < 603) ∨ cel o k → ∃ v, v < 2147483600 ∧ h_iv h1 o k = nI v
section
variable {h h0 : aH} {tx : Nat → Nat} {n s : Nat} {M : Nat → Nat → Nat}
theorem fil_cel (hD : PlD M) {o k : Nat} (f : fil M o k) (ho : o < 435) : cel o k := by
  have d0 := hD.nP
  have d1 := hD.nG
  have d2 := hD.nE
  have d3 := hD.nK
  rcases f with f | f | f | f | f | f | f | f | f
  · exact Or.inl f
  · exact Or.inr (Or.inl ⟨f.1, by omega⟩)
  · exact Or.inr (Or.inr (Or.inl ⟨by omega, by omega⟩))
  · omega
  · exact Or.inr (Or.inr (Or.inr (Or.inl ⟨f.1, by omega⟩)))
  · exact Or.inr (Or.inr (Or.inr (Or.inr (Or.inl ⟨Or.inl f.1, by omega⟩))))
  · exact Or.inr (Or.inr (Or.inl ⟨by omega, by omega⟩))
  · exact Or.inr (Or.inr (Or.inr (Or.inr (Or.inr ⟨f.1, by omega⟩))))
  · exact Or.inr (Or.inr (Or.inr (Or.inr (Or.inl ⟨Or.inr f.1, by omega⟩))))
theorem cel_in {o k : Nat} (c : cel o k) : 418 ≤ o ∧ o < 435 ∧ o ≠ 419 := by unfold cel at c; omega
theorem y_load (hS : Sh h) (X : TR tx n h) (J : JN h) : ∃ r h1, m_X12_load 412 h = some (r, h1) ∧ LR tx n h r h1 := by
  have z : (nI 0 = nI 0) = True := eq_self _
  have z1 : (nI 1 = nI 0) = False := eq_false (by decide)
  have z2 : (nI 1 ≤ nI 0) = False := eq_false (by decide)
  have z3 : (nI 0 ≤ nI 0) = True := eq_true (by decide)
  have S1 := hS.si 412 31 (nI 0)
  have S2 := S1.si 412 32 (-nI 1)
  have F2 : Fx (fun o k => o = 412 ∧ (k = 31 ∨ k = 32)) h (h_si (h_si h 412 31 (nI 0)) 412 32 (-nI 1)) := (Fx.si (A := fun o k => o = 412 ∧ (k = 31 ∨ k = 32)) ⟨rfl, Or.inl rfl⟩).trans (Fx.si ⟨rfl, Or.inr rfl⟩)
  have a31 : h_iv (h_si (h_si h 412 31 (nI 0)) 412 32 (-nI 1)) 412 31 = nI 0 := by rw [si_ne (by omega), si_at]
  have a32 : h_iv (h_si (h_si h 412 31 (nI 0)) 412 32 (-nI 1)) 412 32 = -nI 1 := si_at
  have Y2 : RY h (h_si (h_si h 412 31 (nI 0)) 412 32 (-nI 1)) := RY.fx F2 (fun o k r => by unfold RX; omega)
  simp (maxSteps := 3000000) (disch := first | assumption | omega) only [m_X12_load, bO_v, bR_v, bX_l, bX_r, bC_l, bC_r, aLet_v, nI_add, pk_mul, dvI_n, rmI_n, iMax_n, iMin_n, zO_0, zO_1, li_0, li_1, li_2, li_3, li_4, li_5, li_6, li_7, li_8, li_9, li_10, li_12, li_14, li_15, li_16, li_18, li_19, li_20, li_22, li_23, li_24, li_26, li_29, li_30, li_31, li_32, li_36, li_38, li_48, li_50, li_57, li_58, li_59, li_60, li_63, li_97, li_99, li_120, li_122, li_144, li_168, li_194, li_240, li_255, li_284, li_299, li_603, li_999, li_1200, li_1440, li_4095, li_4096, li_6030, li_16384, li_20160, zl0, zl1, zl2, zl3, zl4, ze01, ze02, ze03, ze04, ze10, ze12, ze13, ze14, ze20, ze21, ze23, ze24, ze30, ze31, ze32, ze34, ze40, ze41, ze42, ze43, zt0, zt1, zt2, zt3, zt4, zq0, zq1, zq2, zq3, zq4, it_t, it_f, Bool.true_eq_false, Bool.false_eq_true, na5, na4, na1441, na2, na10, sx_IOIA, sx_IOIS, sx_IONS, sx_IAIO, sx_IAIS, sx_IANS, sx_ISIO, sx_ISIA, sx_ISNS, sx_NSIO, sx_NSIA, sx_NSIS, r_cM_pi hS, r_cM_pi S1, r_cM_gS S2]
  generalize h_si (h_si h 412 31 (nI 0)) 412 32 (-nI 1) = h2 at *
  obtain ⟨_, h3, e3, S3, Y3, J3, hh⟩ := y_reads S2 (X.ry Y2) (J.fx F2 (fun o k r => by omega))
  have Y03 := Y2.trans Y3
  have S4 := S3.si 412 29 (nI 0)
  have F4 : Fx (fun o k => o = 412 ∧ k = 29) h3 (h_si h3 412 29 (nI 0)) := Fx.si ⟨rfl, rfl⟩
  have a29 : h_iv (h_si h3 412 29 (nI 0)) 412 29 = nI 0 := si_at
  simp (maxSteps := 3000000) (disch := first | assumption | omega) only [e3, bO_v, bR_v, bX_l, bX_r, bC_l, bC_r, aLet_v, nI_add, pk_mul, dvI_n, rmI_n, iMax_n, iMin_n, zO_0, zO_1, li_0, li_1, li_2, li_3, li_4, li_5, li_6, li_7, li_8, li_9, li_10, li_12, li_14, li_15, li_16, li_18, li_19, li_20, li_22, li_23, li_24, li_26, li_29, li_30, li_31, li_32, li_36, li_38, li_48, li_50, li_57, li_58, li_59, li_60, li_63, li_97, li_99, li_120, li_122, li_144, li_168, li_194, li_240, li_255, li_284, li_299, li_603, li_999, li_1200, li_1440, li_4095, li_4096, li_6030, li_16384, li_20160, zl0, zl1, zl2, zl3, zl4, ze01, ze02, ze03, ze04, ze10, ze12, ze13, ze14, ze20, ze21, ze23, ze24, ze30, ze31, ze32, ze34, ze40, ze41, ze42, ze43, zt0, zt1, zt2, zt3, zt4, zq0, zq1, zq2, zq3, zq4, it_t, it_f, Bool.true_eq_false, Bool.false_eq_true, na5, na4, na1441, na2, na10, sx_IOIA, sx_IOIS, sx_IONS, sx_IAIO, sx_IAIS, sx_IANS, sx_ISIO, sx_ISIA, sx_ISNS, sx_NSIO, sx_NSIA, sx_NSIS, r_cM_pi S3, r_cM_gi S4]
  generalize h_si h3 412 29 (nI 0) = h4 at *
  have i4 : ∀ k, k ≠ 29 → h_iv h4 412 k = h_iv h3 412 k := fun k hk => F4.iv (by omega)
  cases et : sText tx n with
  | inl e =>
    rw [et] at hh
    obtain ⟨c33, c31, c32⟩ := hh
    have S5 := S4.si 412 0 (nI 1)
    have b33 : h_iv h4 412 33 = nI 1 := (i4 _ (by omega)).trans c33
    have b0 : h_iv (h_si h4 412 0 (nI 1)) 412 0 = nI 1 := si_at
    simp (maxSteps := 3000000) (disch := first | assumption | omega) only [bO_v, bR_v, bX_l, bX_r, bC_l, bC_r, aJ_v, aLet_v, nI_add, pk_mul, dvI_n, rmI_n, iMax_n, iMin_n, zO_0, zO_1, li_0, li_1, li_2, li_3, li_4, li_5, li_6, li_7, li_8, li_9, li_10, li_12, li_14, li_15, li_16, li_18, li_19, li_20, li_22, li_23, li_24, li_26, li_29, li_30, li_31, li_32, li_36, li_38, li_48, li_50, li_57, li_58, li_59, li_60, li_63, li_97, li_99, li_120, li_122, li_144, li_168, li_194, li_240, li_255, li_284, li_299, li_603, li_999, li_1200, li_1440, li_4095, li_4096, li_6030, li_16384, li_20160, zl0, zl1, zl2, zl3, zl4, ze01, ze02, ze03, ze04, ze10, ze12, ze13, ze14, ze20, ze21, ze23, ze24, ze30, ze31, ze32, ze34, ze40, ze41, ze42, ze43, zt0, zt1, zt2, zt3, zt4, zq0, zq1, zq2, zq3, zq4, it_t, it_f, Bool.true_eq_false, Bool.false_eq_true, na5, na4, na1441, na2, na10, sx_IOIA, sx_IOIS, sx_IONS, sx_IAIO, sx_IAIS, sx_IANS, sx_ISIO, sx_ISIA, sx_ISNS, sx_NSIO, sx_NSIA, sx_NSIS, b33, z1, r_cM_pi S4, r_cM_gi S5, b0, z2]
    have F5 : Fx (fun o k => o = 412 ∧ (k = 0 ∨ k = 29)) h3 (h_si h4 412 0 (nI 1)) := (F4.mono (fun o k r => ⟨r.1, Or.inr r.2⟩)).trans (Fx.si ⟨rfl, Or.inl rfl⟩)
    obtain ⟨y1, y2, y3, y4, y5, y6, y7⟩ := Y03
    obtain ⟨f1, f2, f3, f4, f5, f6, f7⟩ := F5
    refine ⟨_, _, rfl, S5, J3.fx ⟨f1, f2, f3, f4, f5, f6, f7⟩ (fun o k r => by omega), by rw [si_ne (by omega)]; exact a29, ⟨f1.trans y1, f2.trans y2, f3.trans y3, f4.trans y4, f5.trans y5⟩, fun o k q => (f7 o k (by omega)).trans (y6 o k (fun r => q (Or.inl r))), fun o k q => by rw [f6]; exact y7 o k (by omega), ?_⟩
    rw [et]
    refine ⟨rfl, b0, ?_, ?_, fun o k q => ?_, fun k => ?_⟩
    · rw [f7 _ _ (by omega)]; exact c31
    · rw [f7 _ _ (by omega)]; exact c32
    · have q2 : ¬ RX o k := fun r => by
        unfold RX at r
        rcases q with q | q | q | q
        · omega
        · omega
        · omega
        · have := cel_in q; omega
      have q3 : ¬ (o = 412 ∧ (k = 0 ∨ k = 29)) := fun r => by
        rcases q with q | q | q | q
        · omega
        · omega
        · omega
        · have := cel_in q; omega
      exact (f7 o k q3).trans (y6 o k q2)
    · rw [f6]; exact y7 _ _ (by omega)
  | inr M =>
    rw [et] at hh
    obtain ⟨c33, c31, c32, R, w⟩ := hh
    have hD := w.1
    have d1 := hD.nG
    have S5 := S4.si 412 0 (nI 0)
    have b33 : h_iv h4 412 33 = nI 0 := (i4 _ (by omega)).trans c33
    have b0 : h_iv (h_si h4 412 0 (nI 0)) 412 0 = nI 0 := si_at
    have F5 : Fx (fun o k => o = 412 ∧ (k = 0 ∨ k = 29)) h3 (h_si h4 412 0 (nI 0)) := (F4.mono (fun o k r => ⟨r.1, Or.inr r.2⟩)).trans (Fx.si ⟨rfl, Or.inl rfl⟩)
    have a295 : h_iv (h_si h4 412 0 (nI 0)) 412 29 = nI 0 := by rw [si_ne (by omega)]; exact a29
    simp (maxSteps := 3000000) (disch := first | assumption | omega) only [bO_v, bR_v, bX_l, bX_r, bC_l, bC_r, aJ_v, aLet_v, nI_add, pk_mul, dvI_n, rmI_n, iMax_n, iMin_n, zO_0, zO_1, li_0, li_1, li_2, li_3, li_4, li_5, li_6, li_7, li_8, li_9, li_10, li_12, li_14, li_15, li_16, li_18, li_19, li_20, li_22, li_23, li_24, li_26, li_29, li_30, li_31, li_32, li_36, li_38, li_48, li_50, li_57, li_58, li_59, li_60, li_63, li_97, li_99, li_120, li_122, li_144, li_168, li_194, li_240, li_255, li_284, li_299, li_603, li_999, li_1200, li_1440, li_4095, li_4096, li_6030, li_16384, li_20160, zl0, zl1, zl2, zl3, zl4, ze01, ze02, ze03, ze04, ze10, ze12, ze13, ze14, ze20, ze21, ze23, ze24, ze30, ze31, ze32, ze34, ze40, ze41, ze42, ze43, zt0, zt1, zt2, zt3, zt4, zq0, zq1, zq2, zq3, zq4, it_t, it_f, Bool.true_eq_false, Bool.false_eq_true, na5, na4, na1441, na2, na10, sx_IOIA, sx_IOIS, sx_IONS, sx_IAIO, sx_IAIS, sx_IANS, sx_ISIO, sx_ISIA, sx_ISNS, sx_NSIO, sx_NSIA, sx_NSIS, b33, z, r_cM_pi S4, r_cM_gi S5, b0, z3, r_cM_gS S5]
    generalize h_si h4 412 0 (nI 0) = h5 at *
    obtain ⟨_, h7, e7, S7, ⟨t1, t2, t3, t4, t5⟩, tiv, tlv, ⟨u8, u9, u10, u11, u6⟩, tn, tc, trow, t417⟩ := y_takes S5
    have i5 : ∀ o k, ¬ (o = 412 ∧ (k = 0 ∨ k = 29)) → h_iv h5 o k = h_iv h3 o k := fun o k q => F5.iv q
    obtain ⟨y1, y2, y3, y4, y5, y6, y7⟩ := Y03
    have l5 : h_lv h5 = h_lv h3 := F5.2.2.2.2.2.1
    obtain ⟨⟨r1, r2, r3, r4, r5⟩, r6, r7, r8⟩ := R
    have J5 : JN h5 := J3.fx F5 (fun o k r => by omega)
    simp (maxSteps := 3000000) (disch := first | assumption | omega) only [e7, bO_v, bR_v, bX_l, bX_r, bC_l, bC_r, aLet_v, nI_add, pk_mul, dvI_n, rmI_n, iMax_n, iMin_n, zO_0, zO_1, li_0, li_1, li_2, li_3, li_4, li_5, li_6, li_7, li_8, li_9, li_10, li_12, li_14, li_15, li_16, li_18, li_19, li_20, li_22, li_23, li_24, li_26, li_29, li_30, li_31, li_32, li_36, li_38, li_48, li_50, li_57, li_58, li_59, li_60, li_63, li_97, li_99, li_120, li_122, li_144, li_168, li_194, li_240, li_255, li_284, li_299, li_603, li_999, li_1200, li_1440, li_4095, li_4096, li_6030, li_16384, li_20160, zl0, zl1, zl2, zl3, zl4, ze01, ze02, ze03, ze04, ze10, ze12, ze13, ze14, ze20, ze21, ze23, ze24, ze30, ze31, ze32, ze34, ze40, ze41, ze42, ze43, zt0, zt1, zt2, zt3, zt4, zq0, zq1, zq2, zq3, zq4, it_t, it_f, Bool.true_eq_false, Bool.false_eq_true, na5, na4, na1441, na2, na10, sx_IOIA, sx_IOIS, sx_IONS, sx_IAIO, sx_IAIS, sx_IANS, sx_ISIO, sx_ISIA, sx_ISNS, sx_NSIO, sx_NSIA, sx_NSIS, r_cM_gi S7, u8, i5 412 39 (by omega), r1]
    have tk412 : ∀ k, ¬ (k = 6 ∨ (8 ≤ k ∧ k ≤ 11)) → ¬ TKc 412 k := fun k q r => by
      rcases r with r | r | r | r
      · omega
      · omega
      · omega
      · have := cel_in r; omega
    have tkhi : ∀ o k, 435 ≤ o → ¬ TKc o k := fun o k q r => by
      rcases r with r | r | r | r
      · omega
      · omega
      · omega
      · have := cel_in r; omega
    refine ⟨_, _, rfl, S7, fun o k q1 q2 q3 => by rw [tiv o k (tkhi o k (by omega))]; exact J5 o k q1 q2 q3, by rw [tiv _ _ (tk412 _ (by omega))]; exact a295, ⟨t1.trans (F5.1.trans y1), t2.trans (F5.2.1.trans y2), t3.trans (F5.2.2.1.trans y3), t4.trans (F5.2.2.2.1.trans y4), t5.trans (F5.2.2.2.2.1.trans y5)⟩, fun o k q => ?_, fun o k q => ?_, ?_⟩
    · rw [tiv o k (fun r => q (Or.inr (Or.inl r))), i5 o k (fun r => q (Or.inr (Or.inr r)))]
      exact y6 o k (fun r => q (Or.inl r))
    · rw [tlv o k (fun r => q (Or.inr (Or.inr r))), l5]
      exact y7 o k (by omega)
    · rw [et]
      refine ⟨rfl, by rw [tiv _ _ (tk412 _ (by omega))]; exact b0, ?_, ?_, w, ⟨u8.trans ((i5 _ _ (by omega)).trans r1), u9.trans ((i5 _ _ (by omega)).trans r3), u10.trans ((i5 _ _ (by omega)).trans r4), u11.trans ((i5 _ _ (by omega)).trans r5), u6⟩, fun o k f ho => ?_, fun so hso i hi => ?_, fun j hj q => ?_, fun g hg q hq => ?_, t417, fun o k q => ?_⟩
      · rw [tiv _ _ (tk412 _ (by omega)), i5 _ _ (by omega)]; exact c31.trans a31
      · rw [tiv _ _ (tk412 _ (by omega)), i5 _ _ (by omega)]; exact c32.trans a32
      · have f1 := fil_in f
        have f2 := nu_in f1.1 f1.2.1
        rw [tc o k (fil_cel hD f ho), i5 _ _ (by omega)]; exact r6 o k f
      · have q := r8 so hso i hi
        have lt : nmB so + i < 29 := by
          have k1 := nm_iv (Q := 4) hso (Nat.lt_of_lt_of_le hi (nmN_le hD hso))
          have le := nmN_le hD hso
          rcases (show so = 0 ∨ so = 1 ∨ so = 2 ∨ so = 3 by omega) with r | r | r | r <;> subst r
          · omega
          · omega
          · omega
          · change nmN M 3 ≤ 6 at le
            show 23 + i < 29
            omega
        rw [tn _ lt, l5]; exact q
      · rw [trow j hj]
        unfold rowv rwM
        by_cases c1 : 50 ≤ j ∧ j < 194
        · rw [if_pos c1, if_pos c1, i5 _ _ (by omega)]
          exact (r7 (j - 50) (by omega)).2
        · rw [if_neg c1, if_neg c1, if_neg q, if_neg q]
      · have pc := hD.plc g hg
        rw [trow _ (by omega)]
        unfold rowv
        rw [if_neg (by omega), if_pos (by omega), i5 _ _ (by omega), show 8 * ((194 + 15 * g + q - 194) / 15) + (194 + 15 * g + q - 194) % 15 = 8 * g + q by omega]
        refine r6 445 (8 * g + q) (Or.inr (Or.inr (Or.inr (Or.inl ⟨rfl, by omega, ?_⟩))))
        rw [show (8 * g + q) / 8 = g by omega, show (8 * g + q) % 8 = q by omega]
        exact hq
      · rcases q with ⟨rfl, q⟩ | q
        · rw [trow k q]
          unfold rowv
          split
          · exact J5 _ _ (by omega) (by omega) (by omega)
          · split
            · exact J5 _ _ (by omega) (by omega) (by omega)
            · exact ⟨0, by omega, rfl⟩
        · have c := cel_in q
          have nv := nu_v o
          rw [tc o k q]
          exact J5 _ _ (by omega) (by omega) (by omega)
end
