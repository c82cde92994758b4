/-! a call: opened, carried out, closed -/
section
variable {h : aH} {a P : Nat} {T : Nat → Nat → Nat} {S R : Nat → Nat}
theorem ld16 {A c : Nat} (hA : A < 65536) : nI A &&& (nI c ^^^ -nI 1) = nI (mk (fun p => A.testBit p && !c.testBit p) 16) := by
  rw [m1_is, fb_xorI, fa_and]
  congr 1
  refine Nat.eq_of_testBit_eq (fun i => ?_)
  have e : (4294967295 : Nat).testBit i = decide (i < 32) := Nat.testBit_two_pow_sub_one (n := 32) (i := i)
  rw [Nat.testBit_and, Nat.testBit_xor, e, mk_bit]
  by_cases h : i < 16
  · rw [decide_eq_true h, decide_eq_true (show i < 32 by omega)]
    simp
  · rw [Nat.testBit_lt_two_pow (Nat.lt_of_lt_of_le hA (show 2 ^ 16 ≤ 2 ^ i from Nat.pow_le_pow_right (by decide) (by omega))), decide_eq_false h]
    simp
theorem k_logOpen (hS : Sh h) (ha : a ∈ stL) {c m : Nat} (hc : c < 16) (e0 : h_iv h (a + 11) 0 = nI c) :
    m_X0_open (a + 11) (nI m) h = some ((), h_si (h_si h (a + 13) c (nI m)) (a + 14) c (nI 0)) := by
  have a1 := st_in a ha
  have S1 : Sh (h_si h (a + 13) c (nI m)) := hS.si _ _ _
  have e01 : h_iv (h_si h (a + 13) c (nI m)) (a + 11) 0 = nI c := by rw [si_ne (by omega)]; exact e0
  simp (maxSteps := 3000000) (disch := first | assumption | omega) only [m_X0_open, bO_v, bR_v, bX_l, bX_r, bC_l, bC_r, aLet_v, nI_add, pk_mul, dvI_n, rmI_n, iMax_n, iMin_n, zO_0, zO_1, li_0, li_1, li_2, li_3, li_4, li_5, li_6, li_7, li_8, li_9, li_10, li_12, li_14, li_15, li_16, li_18, li_19, li_20, li_22, li_23, li_24, li_26, li_29, li_30, li_31, li_32, li_36, li_38, li_48, li_50, li_57, li_58, li_59, li_60, li_63, li_97, li_99, li_120, li_122, li_144, li_168, li_194, li_240, li_255, li_284, li_299, li_603, li_999, li_1200, li_1440, li_4095, li_4096, li_6030, li_16384, li_20160, zl0, zl1, zl2, zl3, zl4, ze01, ze02, ze03, ze04, ze10, ze12, ze13, ze14, ze20, ze21, ze23, ze24, ze30, ze31, ze32, ze34, ze40, ze41, ze42, ze43, zt0, zt1, zt2, zt3, zt4, zq0, zq1, zq2, zq3, zq4, it_t, it_f, Bool.true_eq_false, Bool.false_eq_true, na5, na4, na1441, na2, na10, sx_IOIA, sx_IOIS, sx_IONS, sx_IAIO, sx_IAIS, sx_IANS, sx_ISIO, sx_ISIA, sx_ISNS, sx_NSIO, sx_NSIA, sx_NSIS, s_cL_gi hS ha, e0, s_plcomers hS ha, s_clcomers_as hS ha, s_cL_gi S1 ha, e01, s_plleavers S1 ha, s_clleavers_as S1 ha]
theorem k_logClose (hS : Sh h) (ha : a ∈ stL) {c u X v : Nat} (hc : c < 16) (hX : X < 65536) (e0 : h_iv h (a + 11) 0 = nI c) (e2 : h_iv h (a + 11) 2 = nI X) (hv : v ≤ 1) :
    OK (m_X0_close (a + 11) (nI u) (nI v) h) (fun r h1 => r = nI c ∧ ∃ Y, Y < 65536 ∧ (∀ j, Y.testBit j = if j = c then decide (v ≠ 0) else X.testBit j) ∧ h1 = h_si (h_si (h_si h (a + 12) c (nI u)) (a + 11) 2 (nI Y)) (a + 11) 0 (nI (c + 1))) := by
  have a1 := st_in a ha
  have S1 : Sh (h_si h (a + 12) c (nI u)) := hS.si _ _ _
  have e01 : h_iv (h_si h (a + 12) c (nI u)) (a + 11) 0 = nI c := by rw [si_ne (by omega)]; exact e0
  have e21 : h_iv (h_si h (a + 12) c (nI u)) (a + 11) 2 = nI X := by rw [si_ne (by omega)]; exact e2
  have two : 2 ^ c < 65536 := Nat.pow_lt_pow_right (show 1 < 2 by decide) (show c < 16 by omega)
  have fin : ∀ Y, Y < 65536 → (∀ j, Y.testBit j = if j = c then decide (v ≠ 0) else X.testBit j) → OK (bO (pi (h_si h (a + 12) c (nI u)) 0 (a + 11) 2 (nI Y)) fun h3 => bO (gi h3 0 (a + 11) 0) fun x7 => bO (pi h3 0 (a + 11) 0 (x7 + nI 1)) fun h4 => bO (gi h4 0 (a + 11) 0) fun x8 => some (x8 - nI 1, h4)) (fun r h1 => r = nI c ∧ ∃ Y, Y < 65536 ∧ (∀ j, Y.testBit j = if j = c then decide (v ≠ 0) else X.testBit j) ∧ h1 = h_si (h_si (h_si h (a + 12) c (nI u)) (a + 11) 2 (nI Y)) (a + 11) 0 (nI (c + 1))) := fun Y y1 y2 => by
    have S2 : Sh (h_si (h_si h (a + 12) c (nI u)) (a + 11) 2 (nI Y)) := S1.si _ _ _
    have e02 : h_iv (h_si (h_si h (a + 12) c (nI u)) (a + 11) 2 (nI Y)) (a + 11) 0 = nI c := by rw [si_ne (by omega)]; exact e01
    have S3 : Sh (h_si (h_si (h_si h (a + 12) c (nI u)) (a + 11) 2 (nI Y)) (a + 11) 0 (nI (c + 1))) := S2.si _ _ _
    have e03 : h_iv (h_si (h_si (h_si h (a + 12) c (nI u)) (a + 11) 2 (nI Y)) (a + 11) 0 (nI (c + 1))) (a + 11) 0 = nI (c + 1) := si_at
    simp (maxSteps := 3000000) (disch := first | assumption | omega) only [bO_v, bR_v, bX_l, bX_r, bC_l, bC_r, aLet_v, nI_add, pk_mul, dvI_n, rmI_n, iMax_n, iMin_n, zO_0, zO_1, li_0, li_1, li_2, li_3, li_4, li_5, li_6, li_7, li_8, li_9, li_10, li_12, li_14, li_15, li_16, li_18, li_19, li_20, li_22, li_23, li_24, li_26, li_29, li_30, li_31, li_32, li_36, li_38, li_48, li_50, li_57, li_58, li_59, li_60, li_63, li_97, li_99, li_120, li_122, li_144, li_168, li_194, li_240, li_255, li_284, li_299, li_603, li_999, li_1200, li_1440, li_4095, li_4096, li_6030, li_16384, li_20160, zl0, zl1, zl2, zl3, zl4, ze01, ze02, ze03, ze04, ze10, ze12, ze13, ze14, ze20, ze21, ze23, ze24, ze30, ze31, ze32, ze34, ze40, ze41, ze42, ze43, zt0, zt1, zt2, zt3, zt4, zq0, zq1, zq2, zq3, zq4, it_t, it_f, Bool.true_eq_false, Bool.false_eq_true, na5, na4, na1441, na2, na10, sx_IOIA, sx_IOIS, sx_IONS, sx_IAIO, sx_IAIS, sx_IANS, sx_ISIO, sx_ISIA, sx_ISNS, sx_NSIO, sx_NSIA, sx_NSIS, s_cL_pi S1 ha, s_cL_gi S2 ha, e02, s_cL_pi S2 ha, s_cL_gi S3 ha, e03, pk_sub, Nat.add_sub_cancel]
    exact ok_ret ⟨rfl, Y, y1, y2, rfl⟩
  simp (maxSteps := 3000000) (disch := first | assumption | omega) only [m_X0_close, bO_v, bR_v, bX_l, bX_r, bC_l, bC_r, aLet_v, nI_add, pk_mul, dvI_n, rmI_n, iMax_n, iMin_n, zO_0, zO_1, li_0, li_1, li_2, li_3, li_4, li_5, li_6, li_7, li_8, li_9, li_10, li_12, li_14, li_15, li_16, li_18, li_19, li_20, li_22, li_23, li_24, li_26, li_29, li_30, li_31, li_32, li_36, li_38, li_48, li_50, li_57, li_58, li_59, li_60, li_63, li_97, li_99, li_120, li_122, li_144, li_168, li_194, li_240, li_255, li_284, li_299, li_603, li_999, li_1200, li_1440, li_4095, li_4096, li_6030, li_16384, li_20160, zl0, zl1, zl2, zl3, zl4, ze01, ze02, ze03, ze04, ze10, ze12, ze13, ze14, ze20, ze21, ze23, ze24, ze30, ze31, ze32, ze34, ze40, ze41, ze42, ze43, zt0, zt1, zt2, zt3, zt4, zq0, zq1, zq2, zq3, zq4, it_t, it_f, Bool.true_eq_false, Bool.false_eq_true, na5, na4, na1441, na2, na10, sx_IOIA, sx_IOIS, sx_IONS, sx_IAIO, sx_IAIS, sx_IANS, sx_ISIO, sx_ISIA, sx_ISNS, sx_NSIO, sx_NSIA, sx_NSIS, s_plcosts hS ha, s_cL_gi hS ha, e0, s_clcosts_as hS ha]
  rw [aJ_v]
  by_cases cv : v = 0
  · have i0 : nI v = nI 0 := by rw [cv]
    rw [if_pos i0]
    simp (maxSteps := 3000000) (disch := first | assumption | omega) only [s_cL_gi S1 ha, e21, e01, bO_v, li_31, shl1_n]
    simp only [ld16 hX, li_1]
    refine fin _ (mk_lt 16) (fun j => ?_)
    rw [mk_bit, Nat.testBit_two_pow]
    by_cases c9 : j = c
    · rw [if_pos c9, c9, cv, decide_eq_true (rfl : c = c)]; simp
    · rw [if_neg c9, decide_eq_false (fun q : c = j => c9 q.symm)]
      by_cases c8 : j < 16
      · rw [decide_eq_true c8]; simp
      · rw [decide_eq_false c8, Nat.testBit_lt_two_pow (Nat.lt_of_lt_of_le hX (Nat.pow_le_pow_right (show 1 ≤ 2 by decide) (show 16 ≤ j by omega)))]; rfl
  · have i0 : ¬ nI v = nI 0 := by
      rw [show v = 1 by omega]; decide
    rw [if_neg i0]
    simp (maxSteps := 3000000) (disch := first | assumption | omega) only [s_cL_gi S1 ha, e21, e01, bO_v, li_31, shl1_n, li_1, fa_or]
    refine fin _ (Nat.or_lt_two_pow (n := 16) hX two) (fun j => ?_)
    rw [Nat.testBit_or, Nat.testBit_two_pow]
    by_cases c9 : j = c
    · rw [if_pos c9, c9, decide_eq_true (rfl : c = c), decide_eq_true cv]; simp
    · rw [if_neg c9, decide_eq_false (fun q : c = j => c9 q.symm), Bool.or_false]
theorem k_carryOut (hS : Sh h) (ha : a ∈ stL) (hP : P ∈ plL) (x : StR h a P T S) (y : PlR h P T) (hD : PlD T) (hR : RwD T S) {k : Nat} (hk : k < T 412 11) (sp : h_rv h 172 0 = a) (pl : h_rv h 172 1 = P) (mu : MuK T S k h) (h16 : S 1 < 16) (ht : S 0 ≤ 20160) (hp : ∀ p, p < T 412 8 → S (38 + p) ≤ 500000) :
    OK (m_X4_carryOut 172 (P + 47 + 3 * k) h) (fun r h1 => r = nI (S 1) ∧ CF a h h1 ∧ StR h1 a P T (caR T S k)) := by
  have d0 := hD.nP
  have d2 := hD.nE
  have d3 := hD.ken k hk
  have d4 := hD.nK
  have d5 := hD.ned k hk
  have a1 := st_in a ha
  have a2 := st_mu a ha
  have p1 := pl_in P hP
  obtain ⟨mu1, mu2, mu3, mu4⟩ := mu
  have cl : com T S k < 4096 := two_pow_lt d0 (mk_lt _)
  obtain ⟨RL, rl⟩ := ca_0 hD hR hk
  simp only [m_X4_carryOut, c_cU_gS hS]
  refine ok_bR (k_loseTrust hS ha hP x y hD hR hk sp (fun p hp9 => (mu3 p hp9).2)) (fun _ h1 hh => ?_)
  obtain ⟨F1, x1⟩ := hh
  have S1 := F1.sh hS
  have ms1 := k_mstate S1 ha (show h_rv h1 172 0 = a by rw [F1.rv]; exact sp)
  have g4 : h_iv h1 172 4 = nI (com T S k) := by rw [F1.iv (by omega)]; exact mu1
  have T1 := tlR_R hD hR hk (Nat.le_refl _)
  have t1 : tlR T S k (T 431 k) 1 = S 1 := tlR_o hD hR hk (Nat.le_refl _) (by omega)
  have m0 := x1.many
  rw [t1] at m0
  have lo := k_logOpen S1 ha (m := sz (com T S k)) h16 m0
  simp (maxSteps := 3000000) (disch := first | assumption | omega) only [bO_v, bR_v, bX_l, bX_r, bC_l, bC_r, aLet_v, nI_add, pk_mul, dvI_n, rmI_n, iMax_n, iMin_n, zO_0, zO_1, li_0, li_1, li_2, li_3, li_4, li_5, li_6, li_7, li_8, li_9, li_10, li_12, li_14, li_15, li_16, li_18, li_19, li_20, li_22, li_23, li_24, li_26, li_29, li_30, li_31, li_32, li_36, li_38, li_48, li_50, li_57, li_58, li_59, li_60, li_63, li_97, li_99, li_120, li_122, li_144, li_168, li_194, li_240, li_255, li_284, li_299, li_603, li_999, li_1200, li_1440, li_4095, li_4096, li_6030, li_16384, li_20160, zl0, zl1, zl2, zl3, zl4, ze01, ze02, ze03, ze04, ze10, ze12, ze13, ze14, ze20, ze21, ze23, ze24, ze30, ze31, ze32, ze34, ze40, ze41, ze42, ze43, zt0, zt1, zt2, zt3, zt4, zq0, zq1, zq2, zq3, zq4, it_t, it_f, Bool.true_eq_false, Bool.false_eq_true, na5, na4, na1441, na2, na10, sx_IOIA, sx_IOIS, sx_IONS, sx_IAIO, sx_IAIS, sx_IANS, sx_ISIO, sx_ISIA, sx_ISNS, sx_NSIO, sx_NSIA, sx_NSIS, ms1, s_plog S1 ha, c_cU_gi S1, g4, k_bitCount cl, s_cL_gS S1 ha, lo]
  generalize hg3 : h_si (h_si h1 (a + 13) (S 1) (nI (sz (com T S k)))) (a + 14) (S 1) (nI 0) = h3
  have F3 : CF a h h3 := by
    rw [← hg3]
    exact (F1.trans (Fr.si (by omega))).trans (Fr.si (by omega))
  have x3 : StR h3 a P T (caE T S k 0) := by
    show StR h3 a P T (lgR T S k (tlR T S k (T 431 k)))
    rw [← hg3]
    refine x1.engo hD T1 rfl (fun o q q1 q2 q3 => by rw [t1] at q3; rw [si_ne (by omega), si_ne (by omega)]) (fun j hj => lgR_o (by rw [t1] at hj; omega)) (fun e he => ?_) (fun e he hq => ?_)
    · rw [si_ne (by omega), si_ne (by omega), lgR_o (by omega)]; exact x1.ret e he
    · rw [lgR_o (by omega), lgR_o (by omega)] at hq
      rw [si_ne (by omega), si_ne (by omega), lgR_o (by omega)]; exact x1.crew e he hq
  have l3 : LB a (S 1) (sz (com T S k)) (plV T S k 0) (caE T S k 0) h3 := by
    rw [← hg3]
    exact ⟨by rw [si_ne (by omega), si_at], si_at, fun j hj => absurd hj (Nat.not_lt_zero _)⟩
  clear hg3 lo
  refine aJ_gen (R := fun o => OK o _) (fun k70 hk70 => ?_)
  refine aL3_run (R := fun o => OK o _) (fun m s1 s2 s3 h4 => ∃ i, i ≤ T 433 k ∧ m = T 433 k - i ∧ s3 = nI i ∧ s2 = nI (plV T S k i) ∧ s1 = nI (50 * plV T S k i + enC T S k i) ∧ CF a h h4 ∧ StR h4 a P T (caE T S k i) ∧ LB a (S 1) (sz (com T S k)) (plV T S k i) (caE T S k i) h4) ⟨0, Nat.zero_le _, rfl, rfl, rfl, rfl, F3, x3, l3⟩ (by omega) ?_
  rintro rec m s1 s2 s3 h4 ⟨i, hi, rfl, rfl, rfl, rfl, F4, x4, l4⟩ ih
  have S4 := F4.sh hS
  have y4 := F4.plan ha hP y hD
  have rv4 : h_rv h4 = h_rv h := F4.rv
  obtain ⟨q1, q2, q3, q4, q5⟩ := caE_inv hD hR hk ht hp hi
  have c0 : caE T S k i 0 = S 0 := by rw [q2 _ (by omega)]; exact rl _ (by omega)
  have c1 : caE T S k i 1 = S 1 := by rw [q2 _ (by omega)]; exact rl _ (by omega)
  have cp : ∀ p, p < T 412 8 → caE T S k i (38 + p) ≤ 1000000 := fun p hp9 => by
    have := q3 p hp9
    have := hp p hp9
    omega
  have vl := plV_le T S k i
  by_cases hlt : i < T 433 k
  · obtain ⟨-, w2, w3, w4⟩ := mu4 i hlt
    have e173 : h_iv h4 175 i = nI (plS T S k (plF T S k i) i) := by rw [F4.iv (by omega)]; exact w2
    have e175 : h_iv h4 177 i = nI (plJ T S k i) := by rw [F4.iv (by omega)]; exact w3
    have e176 : h_iv h4 178 i = nI (plX T S k i) := by rw [F4.iv (by omega)]; exact w4
    have sl : plS T S k (plF T S k i) i < 4 := plS_lt
    have iff0 : plS T S k (plF T S k i) i = 0 ↔ plJ T S k i ≠ 0 := plS_0
    simp (maxSteps := 3000000) (disch := first | assumption | omega) only [m_X4_carryOut_L29, bO_v, bR_v, bX_l, bX_r, bC_l, bC_r, aLet_v, nI_add, pk_mul, dvI_n, rmI_n, iMax_n, iMin_n, zO_0, zO_1, li_0, li_1, li_2, li_3, li_4, li_5, li_6, li_7, li_8, li_9, li_10, li_12, li_14, li_15, li_16, li_18, li_19, li_20, li_22, li_23, li_24, li_26, li_29, li_30, li_31, li_32, li_36, li_38, li_48, li_50, li_57, li_58, li_59, li_60, li_63, li_97, li_99, li_120, li_122, li_144, li_168, li_194, li_240, li_255, li_284, li_299, li_603, li_999, li_1200, li_1440, li_4095, li_4096, li_6030, li_16384, li_20160, zl0, zl1, zl2, zl3, zl4, ze01, ze02, ze03, ze04, ze10, ze12, ze13, ze14, ze20, ze21, ze23, ze24, ze30, ze31, ze32, ze34, ze40, ze41, ze42, ze43, zt0, zt1, zt2, zt3, zt4, zq0, zq1, zq2, zq3, zq4, it_t, it_f, Bool.true_eq_false, Bool.false_eq_true, na5, na4, na1441, na2, na10, sx_IOIA, sx_IOIS, sx_IONS, sx_IAIO, sx_IAIS, sx_IANS, sx_ISIO, sx_ISIA, sx_ISNS, sx_NSIO, sx_NSIA, sx_NSIS, p_ek_gi S4 hP, y4.ken k hk, nI_ltI, c_pu2 S4, c_cu2_al S4, e173, nI_eq]
    rw [if_pos hlt]
    refine aJ_gen (R := fun o => OK o _) (fun k64 hk64 => ?_)
    by_cases cz : plJ T S k i = 0
    · have cv : plV T S k (i + 1) = plV T S k i := by
        show plV T S k i + (if plJ T S k i = 0 then 0 else 1) = _
        rw [if_pos cz, Nat.add_zero]
      have cE : caE T S k (i + 1) = caE T S k i := by
        show (if plJ T S k i = 0 then caE T S k i else _) = _
        rw [if_pos cz]
      have cC : enC T S k (i + 1) = enC T S k i := by rw [enC, if_pos cz]
      rw [if_neg (fun q => iff0.mp q cz), hk64]
      simp only [bO_v, bR_v, bX_l, bX_r, bC_l, bC_r, aLet_v, nI_add, pk_mul, dvI_n, rmI_n, iMax_n, iMin_n, zO_0, zO_1, li_0, li_1, li_2, li_3, li_4, li_5, li_6, li_7, li_8, li_9, li_10, li_12, li_14, li_15, li_16, li_18, li_19, li_20, li_22, li_23, li_24, li_26, li_29, li_30, li_31, li_32, li_36, li_38, li_48, li_50, li_57, li_58, li_59, li_60, li_63, li_97, li_99, li_120, li_122, li_144, li_168, li_194, li_240, li_255, li_284, li_299, li_603, li_999, li_1200, li_1440, li_4095, li_4096, li_6030, li_16384, li_20160, zl0, zl1, zl2, zl3, zl4, ze01, ze02, ze03, ze04, ze10, ze12, ze13, ze14, ze20, ze21, ze23, ze24, ze30, ze31, ze32, ze34, ze40, ze41, ze42, ze43, zt0, zt1, zt2, zt3, zt4, zq0, zq1, zq2, zq3, zq4, it_t, it_f, Bool.true_eq_false, Bool.false_eq_true, na5, na4, na1441, na2, na10, sx_IOIA, sx_IOIS, sx_IONS, sx_IAIO, sx_IAIS, sx_IANS, sx_ISIO, sx_ISIA, sx_ISNS, sx_NSIO, sx_NSIA, sx_NSIS]
      refine ih _ _ _ _ _ (by omega) ⟨i + 1, hlt, rfl, rfl, by rw [cv], by rw [cv, cC], F4, by rw [cE]; exact x4, by rw [cE, cv]; exact l4⟩
    · have cv : plV T S k (i + 1) = plV T S k i + 1 := by
        show plV T S k i + (if plJ T S k i = 0 then 0 else 1) = _
        rw [if_neg cz]
      have cE : caE T S k (i + 1) = sdR T (S 0) (fun _ => enU T S k i) (fun p => (plJ T S k i).testBit p) (T 412 8) (egR T S k i (caE T S k i)) := by
        show (if plJ T S k i = 0 then caE T S k i else _) = _
        rw [if_neg cz]
        rfl
      have cC : enC T S k (i + 1) = enC T S k i + sdK T (S 0) (fun _ => enU T S k i) (fun p => (plJ T S k i).testBit p) (T 412 8) := by rw [enC, if_neg cz]
      rw [if_pos (iff0.mpr cz)]
      obtain ⟨r, h5, e5, er, F5, x5, l5⟩ := k_sendEngine S4 ha hP x4 y4 hD q1 hk hlt (by rw [rv4]; exact sp) (by rw [rv4]; exact pl) e175 e176 cz c0 c1 h16 ht cp l4
      rw [er] at e5
      simp (maxSteps := 3000000) (disch := first | assumption | omega) only [bO_v, bR_v, bX_l, bX_r, bC_l, bC_r, aLet_v, nI_add, pk_mul, dvI_n, rmI_n, iMax_n, iMin_n, zO_0, zO_1, li_0, li_1, li_2, li_3, li_4, li_5, li_6, li_7, li_8, li_9, li_10, li_12, li_14, li_15, li_16, li_18, li_19, li_20, li_22, li_23, li_24, li_26, li_29, li_30, li_31, li_32, li_36, li_38, li_48, li_50, li_57, li_58, li_59, li_60, li_63, li_97, li_99, li_120, li_122, li_144, li_168, li_194, li_240, li_255, li_284, li_299, li_603, li_999, li_1200, li_1440, li_4095, li_4096, li_6030, li_16384, li_20160, zl0, zl1, zl2, zl3, zl4, ze01, ze02, ze03, ze04, ze10, ze12, ze13, ze14, ze20, ze21, ze23, ze24, ze30, ze31, ze32, ze34, ze40, ze41, ze42, ze43, zt0, zt1, zt2, zt3, zt4, zq0, zq1, zq2, zq3, zq4, it_t, it_f, Bool.true_eq_false, Bool.false_eq_true, na5, na4, na1441, na2, na10, sx_IOIA, sx_IOIS, sx_IONS, sx_IAIO, sx_IAIS, sx_IANS, sx_ISIO, sx_ISIA, sx_ISNS, sx_NSIO, sx_NSIA, sx_NSIS, c_cU_gS S4, e5, hk64]
      refine ih _ _ _ _ _ (by omega) ⟨i + 1, hlt, rfl, rfl, by rw [cv], ?_, F4.trans F5, by rw [cE]; exact x5, by rw [cE, cv]; exact l5⟩
      rw [cv, cC]
      congr 1
      omega
  · obtain rfl : i = T 433 k := by omega
    simp (maxSteps := 3000000) (disch := first | assumption | omega) only [m_X4_carryOut_L29, bO_v, bR_v, bX_l, bX_r, bC_l, bC_r, aLet_v, nI_add, pk_mul, dvI_n, rmI_n, iMax_n, iMin_n, zO_0, zO_1, li_0, li_1, li_2, li_3, li_4, li_5, li_6, li_7, li_8, li_9, li_10, li_12, li_14, li_15, li_16, li_18, li_19, li_20, li_22, li_23, li_24, li_26, li_29, li_30, li_31, li_32, li_36, li_38, li_48, li_50, li_57, li_58, li_59, li_60, li_63, li_97, li_99, li_120, li_122, li_144, li_168, li_194, li_240, li_255, li_284, li_299, li_603, li_999, li_1200, li_1440, li_4095, li_4096, li_6030, li_16384, li_20160, zl0, zl1, zl2, zl3, zl4, ze01, ze02, ze03, ze04, ze10, ze12, ze13, ze14, ze20, ze21, ze23, ze24, ze30, ze31, ze32, ze34, ze40, ze41, ze42, ze43, zt0, zt1, zt2, zt3, zt4, zq0, zq1, zq2, zq3, zq4, it_t, it_f, Bool.true_eq_false, Bool.false_eq_true, na5, na4, na1441, na2, na10, sx_IOIA, sx_IOIS, sx_IONS, sx_IAIO, sx_IAIS, sx_IANS, sx_ISIO, sx_ISIA, sx_ISNS, sx_NSIO, sx_NSIA, sx_NSIS, p_ek_gi S4 hP, y4.ken k hk, nI_ltI, hk70]
    rw [if_neg hlt]
    refine aJ_gen (R := fun o => OK o _) (fun k148 hk148 => ?_)
    have fl : plF T S k (T 433 k) < 4096 := two_pow_lt d0 (plF_lt hD S k _)
    refine k_restGo (S := S) (Z := fun o => OK o _) S4 ha hP x4 y4 hD q1 (by rw [rv4]; exact sp) (by rw [rv4]; exact pl) (by rw [F4.iv (by omega)]; exact mu2) fl (fun p hp9 => by rw [F4.iv (by omega)]; exact (mu3 p hp9).1) c0 ht cp (by omega) (fun h5 F5 x5 => ?_)
    have F5' : CF a h h5 := F4.trans (F5.mono (fun o q => by omega))
    have S5 := F5'.sh hS
    have y5 := F5'.plan ha hP y hD
    have l5 : LB a (S 1) (sz (com T S k)) (plV T S k (T 433 k)) (caV T S k) h5 := l4.fr F5 (fun o q => by omega) (fun j hj => sdR_o (by omega) d0)
    have RV := caV_R hD hR hk ht hp
    change StR h5 a P T (caV T S k) at x5
    have v1 : caV T S k 1 = S 1 := by
      rw [← c1]
      exact sdR_o (by omega) d0
    have ms5 := k_mstate S5 ha (show h_rv h5 172 0 = a by rw [F5'.rv]; exact sp)
    have m5 := x5.many
    rw [v1] at m5
    obtain ⟨X, X1, X2, X3⟩ := x5.ans
    rw [hk148]
    have ck : 50 * plV T S k (T 433 k) + enC T S k (T 433 k) + sdK T (S 0) (voF T S) (fun p => (plF T S k (T 433 k)).testBit p) (T 412 8) = caK T S k := rfl
    rw [ck]
    simp (maxSteps := 3000000) (disch := first | assumption | omega) only [bO_v, bR_v, bX_l, bX_r, bC_l, bC_r, aLet_v, nI_add, pk_mul, dvI_n, rmI_n, iMax_n, iMin_n, zO_0, zO_1, li_0, li_1, li_2, li_3, li_4, li_5, li_6, li_7, li_8, li_9, li_10, li_12, li_14, li_15, li_16, li_18, li_19, li_20, li_22, li_23, li_24, li_26, li_29, li_30, li_31, li_32, li_36, li_38, li_48, li_50, li_57, li_58, li_59, li_60, li_63, li_97, li_99, li_120, li_122, li_144, li_168, li_194, li_240, li_255, li_284, li_299, li_603, li_999, li_1200, li_1440, li_4095, li_4096, li_6030, li_16384, li_20160, zl0, zl1, zl2, zl3, zl4, ze01, ze02, ze03, ze04, ze10, ze12, ze13, ze14, ze20, ze21, ze23, ze24, ze30, ze31, ze32, ze34, ze40, ze41, ze42, ze43, zt0, zt1, zt2, zt3, zt4, zq0, zq1, zq2, zq3, zq4, it_t, it_f, Bool.true_eq_false, Bool.false_eq_true, na5, na4, na1441, na2, na10, sx_IOIA, sx_IOIS, sx_IONS, sx_IAIO, sx_IAIS, sx_IANS, sx_ISIO, sx_ISIA, sx_ISNS, sx_NSIO, sx_NSIA, sx_NSIS, ms5, s_plog S5 ha, p_ek_gi S5 hP, y5.ned k hk, nI_ltI]
    refine aJ_gen (R := fun o => OK o _) (fun k169 hk169 => ?_)
    have eo : ∀ {j}, j ≠ 1 → j ≠ 299 + 19 * S 1 → caR T S k j = caV T S k j := fun h1 h2 => by unfold caR; rw [pt_n h1, pt_n h2]
    have r1 : caR T S k 1 = S 1 + 1 := pt_e
    have rc : caR T S k (299 + 19 * S 1) = caK T S k := by unfold caR; rw [pt_n (by omega), pt_e]
    have lg : ∀ i, 0 < i → i < 4 → caR T S k (299 + 19 * S 1 + i) = lgR T S k (tlR T S k (T 431 k)) (299 + 19 * S 1 + i) := fun i h1 h2 => by
      rw [eo (by omega) (by omega), ← q2 _ (by omega)]
      exact sdR_o (by omega) d0
    have g1 : caR T S k (299 + 19 * S 1 + 1) = if plV T S k (T 433 k) < T 430 k then 0 else 1 := by
      rw [lg 1 (by omega) (by omega)]
      unfold lgR
      rw [if_pos (by omega), if_pos rfl]
    have g2 : caR T S k (299 + 19 * S 1 + 2) = sz (com T S k) := by
      rw [lg 2 (by omega) (by omega)]
      unfold lgR
      rw [if_pos (by omega), if_neg (by omega), if_pos rfl]
    have g3 : caR T S k (299 + 19 * S 1 + 3) = plV T S k (T 433 k) := by
      rw [lg 3 (by omega) (by omega)]
      unfold lgR
      rw [if_pos (by omega), if_neg (by omega), if_neg (by omega), if_pos rfl]
    have fin : ∀ v, v ≤ 1 → v = caR T S k (299 + 19 * S 1 + 1) → OK (k169 (nI v) h5) (fun r h1 => r = nI (S 1) ∧ CF a h h1 ∧ StR h1 a P T (caR T S k)) := fun v hv ev => by
      rw [hk169]
      simp only [s_cL_gS S5 ha]
      refine ok_bR (k_logClose S5 ha h16 X2 m5 X1 hv) (fun r h6 hh => ?_)
      obtain ⟨rfl, Y, Y1, Y2, rfl⟩ := hh
      refine ok_ret ⟨rfl, ((F5'.trans (Fr.si (by omega))).trans (Fr.si (by omega))).trans (Fr.si (by omega)), ?_⟩
      refine x5.clos hD RV rfl (fun o q q1 q2 q3 => by rw [si_ne (by omega), si_ne (by omega), si_ne (by omega)]) (fun j hj => eo (by omega) (by omega)) ?_ (fun c hc => ?_) ⟨Y, by rw [si_ne (by omega), si_at], Y1, fun c hc => ?_⟩ (fun c hc => ?_) (fun c hc => ?_) (fun c hc i hi9 => ?_) (fun c hc i hi9 => ?_) (fun c hc i hi9 => ?_)
      · rw [si_at, r1]
      · rw [r1] at hc
        rw [si_ne (by omega), si_ne (by omega)]
        by_cases cc : c = S 1
        · rw [cc, si_at, rc]
        · rw [si_ne (by omega), eo (by omega) (by omega)]; exact x5.cost c (by omega)
      · rw [r1] at hc
        rw [Y2]
        by_cases cc : c = S 1
        · rw [if_pos cc, cc, ev]
        · rw [if_neg cc, eo (by omega) (by omega)]; exact X3 c (by omega)
      · rw [r1] at hc
        rw [si_ne (by omega), si_ne (by omega), si_ne (by omega)]
        by_cases cc : c = S 1
        · rw [cc, g2]; exact l5.1
        · rw [eo (by omega) (by omega)]; exact x5.came c (by omega)
      · rw [r1] at hc
        rw [si_ne (by omega), si_ne (by omega), si_ne (by omega)]
        by_cases cc : c = S 1
        · rw [cc, g3]; exact l5.2.1
        · rw [eo (by omega) (by omega)]; exact x5.left c (by omega)
      · rw [r1] at hc
        rw [si_ne (by omega), si_ne (by omega), si_ne (by omega)]
        by_cases cc : c = S 1
        · rw [cc, g3] at hi9
          rw [cc, eo (by omega) (by omega)]; exact (l5.2.2 i hi9).1
        · have l9 := RV.left c (by omega)
          rw [eo (by omega) (by omega)] at hi9
          rw [eo (by omega) (by omega)]; exact x5.leng c (by omega) i hi9
      · rw [r1] at hc
        rw [si_ne (by omega), si_ne (by omega), si_ne (by omega)]
        by_cases cc : c = S 1
        · rw [cc, g3] at hi9
          rw [cc, eo (by omega) (by omega)]; exact (l5.2.2 i hi9).2.1
        · have l9 := RV.left c (by omega)
          rw [eo (by omega) (by omega)] at hi9
          rw [eo (by omega) (by omega)]; exact x5.ltim c (by omega) i hi9
      · rw [r1] at hc
        rw [si_ne (by omega), si_ne (by omega), si_ne (by omega)]
        by_cases cc : c = S 1
        · rw [cc, g3] at hi9
          rw [cc, eo (by omega) (by omega)]; exact (l5.2.2 i hi9).2.2
        · have l9 := RV.left c (by omega)
          rw [eo (by omega) (by omega)] at hi9
          rw [eo (by omega) (by omega)]; exact x5.lcrw c (by omega) i hi9
    by_cases cn : plV T S k (T 433 k) < T 430 k
    · rw [if_pos cn] at g1 ⊢
      exact fin 0 (by omega) g1.symm
    · rw [if_neg cn] at g1 ⊢
      exact fin 1 (by omega) g1.symm
end
