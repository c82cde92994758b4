/-! append, truncate -/
def sft (i : Nat) : Int32 := if i = 0 then nI 24 else if i = 1 then nI 16 else if i = 2 then nI 8 else if i = 3 then nI 0 else -nI 8
theorem sft_s : ∀ i, i < 4 → sft i + -nI 8 = sft (i + 1) ∧ ¬ sft i < nI 0 := by decide +kernel
theorem sft_e : sft 4 < nI 0 := by decide
/-- the i-th byte of a number -/
def bv (x : Int32) (i : Nat) : Nat := ((x >>> (sft i &&& nI 31)) &&& nI 255).toNatClampNeg
theorem and255 (y : Int32) : ∃ b, b < 256 ∧ y &&& nI 255 = nI b := by
  obtain ⟨k, rfl⟩ := nI_sur y
  have e : nI k &&& nI 255 = nI (k &&& 255) := fa_and _ _
  exact ⟨k &&& 255, Nat.lt_of_le_of_lt Nat.and_le_right (by decide), e⟩
theorem bv_n (x : Int32) (i : Nat) : (x >>> (sft i &&& nI 31)) &&& nI 255 = nI (bv x i) ∧ bv x i < 256 := by
  obtain ⟨b, h1, h2⟩ := and255 (x >>> (sft i &&& nI 31))
  have e : bv x i = b := by
    unfold bv
    rw [h2]
    exact nI_clamp (by omega)
  rw [e]; exact ⟨h2, h1⟩
theorem b255 : ∀ i, i < 8 → (nI 255).toBitVec.getLsbD i = true := by decide
theorem low8 (y : Int32) : (y &&& nI 255).toInt8 = y.toInt8 := by
  apply Int8.toBitVec_inj.1
  rw [Int32.toBitVec_toInt8, Int32.toBitVec_toInt8, BitVec.signExtend_eq_setWidth_of_le _ (by decide), BitVec.signExtend_eq_setWidth_of_le _ (by decide)]
  apply BitVec.eq_of_getLsbD_eq
  intro i hi
  rw [BitVec.getLsbD_setWidth, BitVec.getLsbD_setWidth, Int32.toBitVec_and, BitVec.getLsbD_and, b255 i hi, Bool.and_true]
theorem byt_c (x : Int32) (i : Nat) : ((x >>> (sft i &&& nI 31)).toInt8.toInt32).toInt8.toInt32 = byt (bv x i) := by
  rw [Int8.toInt8_toInt32]
  unfold byt
  rw [← (bv_n x i).1, low8]
section
variable {h h1 : aH} {T T' : Nat → Nat → Nat} {P Q : Nat}
theorem k_put4 (hS : Sh h) {x : Int32} {l : Nat} (hl : l + 4 ≤ 1200) (e : h_iv h 1 1 = nI l) : OK (m_X11_putFourBytes 1 x h) (fun _ h1 => Fx (fun o k => (o = 1 ∧ k = 1) ∨ (o = 2 ∧ l ≤ k ∧ k < l + 4)) h h1 ∧ h_iv h1 1 1 = nI (l + 4) ∧ ∀ i, i < 4 → h_iv h1 2 (l + i) = byt (bv x i)) := by
  simp (maxSteps := 3000000) (disch := first | assumption | omega) only [m_X11_putFourBytes, bO_v, bR_v, bX_l, bX_r, bC_l, bC_r, aLet_v, nI_add, pk_mul, dvI_n, rmI_n, iMax_n, iMin_n, zO_0, zO_1, li_0, li_1, li_2, li_3, li_4, li_5, li_6, li_7, li_8, li_9, li_10, li_12, li_14, li_15, li_16, li_18, li_19, li_20, li_22, li_23, li_24, li_26, li_29, li_30, li_31, li_32, li_36, li_38, li_48, li_50, li_57, li_58, li_59, li_60, li_63, li_97, li_99, li_120, li_122, li_144, li_168, li_194, li_240, li_255, li_284, li_299, li_603, li_999, li_1200, li_1440, li_4095, li_4096, li_6030, li_16384, li_20160, zl0, zl1, zl2, zl3, zl4, ze01, ze02, ze03, ze04, ze10, ze12, ze13, ze14, ze20, ze21, ze23, ze24, ze30, ze31, ze32, ze34, ze40, ze41, ze42, ze43, zt0, zt1, zt2, zt3, zt4, zq0, zq1, zq2, zq3, zq4, it_t, it_f, Bool.true_eq_false, Bool.false_eq_true, na5, na4, na1441, na2, na10, sx_IOIA, sx_IOIS, sx_IONS, sx_IAIO, sx_IAIS, sx_IANS, sx_ISIO, sx_ISIA, sx_ISNS, sx_NSIO, sx_NSIA, sx_NSIS]
  generalize hK : (fun (_ : Unit) (h1 : aH) => Fx (fun o k => (o = 1 ∧ k = 1) ∨ (o = 2 ∧ l ≤ k ∧ k < l + 4)) h h1 ∧ h_iv h1 1 1 = nI (l + 4) ∧ ∀ i, i < 4 → h_iv h1 2 (l + i) = byt (bv x i)) = K
  refine aJ_gen (R := fun o => OK o K) (fun k46 hk46 => ?_)
  refine aL1_run (R := fun o => OK o K) (fun m s1 g => ∃ i, i ≤ 4 ∧ m = 4 - i ∧ s1 = sft i ∧ Fx (fun o k => (o = 1 ∧ k = 1) ∨ (o = 2 ∧ l ≤ k ∧ k < l + 4)) h g ∧ h_iv g 1 1 = nI (l + i) ∧ ∀ j, j < i → h_iv g 2 (l + j) = byt (bv x j)) ⟨0, Nat.zero_le _, rfl, rfl, Fx.rf, e, fun j r => absurd r (Nat.not_lt_zero j)⟩ (by omega) ?_
  rintro rec m s1 g ⟨i, hi, rfl, rfl, F, g1, f⟩ ih
  have S := F.sh hS
  by_cases hlt : i < 4
  · obtain ⟨s1, s2⟩ := sft_s i hlt
    have S1 : Sh (h_si g 2 (l + i) (((x >>> (sft i &&& nI 31)).toInt8.toInt32).toInt8.toInt32)) := S.si _ _ _
    have g11 : h_iv (h_si g 2 (l + i) (((x >>> (sft i &&& nI 31)).toInt8.toInt32).toInt8.toInt32)) 1 1 = nI (l + i) := by rw [si_ne (by omega)]; exact g1
    simp (maxSteps := 3000000) (disch := first | assumption | omega) only [m_X11_putFourBytes_L3, bO_v, bR_v, bX_l, bX_r, bC_l, bC_r, aJ_v, aLet_v, nI_add, pk_mul, dvI_n, rmI_n, iMax_n, iMin_n, zO_0, zO_1, li_0, li_1, li_2, li_3, li_4, li_5, li_6, li_7, li_8, li_9, li_10, li_12, li_14, li_15, li_16, li_18, li_19, li_20, li_22, li_23, li_24, li_26, li_29, li_30, li_31, li_32, li_36, li_38, li_48, li_50, li_57, li_58, li_59, li_60, li_63, li_97, li_99, li_120, li_122, li_144, li_168, li_194, li_240, li_255, li_284, li_299, li_603, li_999, li_1200, li_1440, li_4095, li_4096, li_6030, li_16384, li_20160, zl0, zl1, zl2, zl3, zl4, ze01, ze02, ze03, ze04, ze10, ze12, ze13, ze14, ze20, ze21, ze23, ze24, ze30, ze31, ze32, ze34, ze40, ze41, ze42, ze43, zt0, zt1, zt2, zt3, zt4, zq0, zq1, zq2, zq3, zq4, it_t, it_f, Bool.true_eq_false, Bool.false_eq_true, na5, na4, na1441, na2, na10, sx_IOIA, sx_IOIS, sx_IONS, sx_IAIO, sx_IAIS, sx_IANS, sx_ISIO, sx_ISIA, sx_ISNS, sx_NSIO, sx_NSIA, sx_NSIS, if_neg s2, c_cX_gi S, g1, nI_ltI, if_pos (show l + i < 1200 by omega), c_ptxt S, c_ctxt_as S, c_cX_gi S1, g11, c_cX_pi S1, s1]
    refine ih _ _ _ (by omega) ⟨i + 1, hlt, rfl, rfl, (F.trans (Fx.si (A := fun o k => (o = 1 ∧ k = 1) ∨ (o = 2 ∧ l ≤ k ∧ k < l + 4)) (Or.inr ⟨rfl, by omega, by omega⟩))).trans (Fx.si (Or.inl ⟨rfl, rfl⟩)), si_at, fun j hj => ?_⟩
    rw [si_ne (by omega)]
    by_cases cj : j = i
    · rw [cj, si_at]; exact byt_c x i
    · rw [si_ne (by omega)]; exact f j (by omega)
  · obtain rfl : i = 4 := by omega
    simp (maxSteps := 3000000) (disch := first | assumption | omega) only [m_X11_putFourBytes_L3, bO_v, bR_v, bX_l, bX_r, bC_l, bC_r, aLet_v, nI_add, pk_mul, dvI_n, rmI_n, iMax_n, iMin_n, zO_0, zO_1, li_0, li_1, li_2, li_3, li_4, li_5, li_6, li_7, li_8, li_9, li_10, li_12, li_14, li_15, li_16, li_18, li_19, li_20, li_22, li_23, li_24, li_26, li_29, li_30, li_31, li_32, li_36, li_38, li_48, li_50, li_57, li_58, li_59, li_60, li_63, li_97, li_99, li_120, li_122, li_144, li_168, li_194, li_240, li_255, li_284, li_299, li_603, li_999, li_1200, li_1440, li_4095, li_4096, li_6030, li_16384, li_20160, zl0, zl1, zl2, zl3, zl4, ze01, ze02, ze03, ze04, ze10, ze12, ze13, ze14, ze20, ze21, ze23, ze24, ze30, ze31, ze32, ze34, ze40, ze41, ze42, ze43, zt0, zt1, zt2, zt3, zt4, zq0, zq1, zq2, zq3, zq4, it_t, it_f, Bool.true_eq_false, Bool.false_eq_true, na5, na4, na1441, na2, na10, sx_IOIA, sx_IOIS, sx_IONS, sx_IAIO, sx_IAIS, sx_IANS, sx_ISIO, sx_ISIA, sx_ISNS, sx_NSIO, sx_NSIA, sx_NSIS, if_pos sft_e]
    rw [hk46, ← hK]
    exact ok_ret ⟨F, g1, f⟩
theorem y_bytes (hS : Sh h) {x : Int32} {l : Nat} (hl : l + 4 ≤ 1200) (e : h_iv h 412 29 = nI l) : OK (m_X12_bytes 412 x h) (fun _ h1 => Fx (fun o k => (o = 412 ∧ k = 29) ∨ (o = 435 ∧ l ≤ k ∧ k < l + 4)) h h1 ∧ h_iv h1 412 29 = nI (l + 4) ∧ ∀ i, i < 4 → h_iv h1 435 (l + i) = nI (bv x i)) := by
  simp (maxSteps := 3000000) (disch := first | assumption | omega) only [m_X12_bytes, bO_v, bR_v, bX_l, bX_r, bC_l, bC_r, aLet_v, nI_add, pk_mul, dvI_n, rmI_n, iMax_n, iMin_n, zO_0, zO_1, li_0, li_1, li_2, li_3, li_4, li_5, li_6, li_7, li_8, li_9, li_10, li_12, li_14, li_15, li_16, li_18, li_19, li_20, li_22, li_23, li_24, li_26, li_29, li_30, li_31, li_32, li_36, li_38, li_48, li_50, li_57, li_58, li_59, li_60, li_63, li_97, li_99, li_120, li_122, li_144, li_168, li_194, li_240, li_255, li_284, li_299, li_603, li_999, li_1200, li_1440, li_4095, li_4096, li_6030, li_16384, li_20160, zl0, zl1, zl2, zl3, zl4, ze01, ze02, ze03, ze04, ze10, ze12, ze13, ze14, ze20, ze21, ze23, ze24, ze30, ze31, ze32, ze34, ze40, ze41, ze42, ze43, zt0, zt1, zt2, zt3, zt4, zq0, zq1, zq2, zq3, zq4, it_t, it_f, Bool.true_eq_false, Bool.false_eq_true, na5, na4, na1441, na2, na10, sx_IOIA, sx_IOIS, sx_IONS, sx_IAIO, sx_IAIS, sx_IANS, sx_ISIO, sx_ISIA, sx_ISNS, sx_NSIO, sx_NSIA, sx_NSIS]
  generalize hK : (fun (_ : Unit) (h1 : aH) => Fx (fun o k => (o = 412 ∧ k = 29) ∨ (o = 435 ∧ l ≤ k ∧ k < l + 4)) h h1 ∧ h_iv h1 412 29 = nI (l + 4) ∧ ∀ i, i < 4 → h_iv h1 435 (l + i) = nI (bv x i)) = K
  refine aJ_gen (R := fun o => OK o K) (fun k39 hk39 => ?_)
  refine aL1_run (R := fun o => OK o K) (fun m s1 g => ∃ i, i ≤ 4 ∧ m = 4 - i ∧ s1 = sft i ∧ Fx (fun o k => (o = 412 ∧ k = 29) ∨ (o = 435 ∧ l ≤ k ∧ k < l + 4)) h g ∧ h_iv g 412 29 = nI (l + i) ∧ ∀ j, j < i → h_iv g 435 (l + j) = nI (bv x j)) ⟨0, Nat.zero_le _, rfl, rfl, Fx.rf, e, fun j r => absurd r (Nat.not_lt_zero j)⟩ (by omega) ?_
  rintro rec m s1 g ⟨i, hi, rfl, rfl, F, g1, f⟩ ih
  have S := F.sh hS
  by_cases hlt : i < 4
  · obtain ⟨s1, s2⟩ := sft_s i hlt
    have S1 : Sh (h_si g 435 (l + i) (nI (bv x i))) := S.si _ _ _
    have g11 : h_iv (h_si g 435 (l + i) (nI (bv x i))) 412 29 = nI (l + i) := by rw [si_ne (by omega)]; exact g1
    simp (maxSteps := 3000000) (disch := first | assumption | omega) only [m_X12_bytes_L3, bO_v, bR_v, bX_l, bX_r, bC_l, bC_r, aJ_v, aLet_v, nI_add, pk_mul, dvI_n, rmI_n, iMax_n, iMin_n, zO_0, zO_1, li_0, li_1, li_2, li_3, li_4, li_5, li_6, li_7, li_8, li_9, li_10, li_12, li_14, li_15, li_16, li_18, li_19, li_20, li_22, li_23, li_24, li_26, li_29, li_30, li_31, li_32, li_36, li_38, li_48, li_50, li_57, li_58, li_59, li_60, li_63, li_97, li_99, li_120, li_122, li_144, li_168, li_194, li_240, li_255, li_284, li_299, li_603, li_999, li_1200, li_1440, li_4095, li_4096, li_6030, li_16384, li_20160, zl0, zl1, zl2, zl3, zl4, ze01, ze02, ze03, ze04, ze10, ze12, ze13, ze14, ze20, ze21, ze23, ze24, ze30, ze31, ze32, ze34, ze40, ze41, ze42, ze43, zt0, zt1, zt2, zt3, zt4, zq0, zq1, zq2, zq3, zq4, it_t, it_f, Bool.true_eq_false, Bool.false_eq_true, na5, na4, na1441, na2, na10, sx_IOIA, sx_IOIS, sx_IONS, sx_IAIO, sx_IAIS, sx_IANS, sx_ISIO, sx_ISIA, sx_ISNS, sx_NSIO, sx_NSIA, sx_NSIS, if_neg s2, r_cM_gi S, g1, r_p435 S, (bv_n x i).1, r_c435_as S, r_cM_gi S1, g11, r_cM_pi S1, s1]
    refine ih _ _ _ (by omega) ⟨i + 1, hlt, rfl, rfl, (F.trans (Fx.si (A := fun o k => (o = 412 ∧ k = 29) ∨ (o = 435 ∧ l ≤ k ∧ k < l + 4)) (Or.inr ⟨rfl, by omega, by omega⟩))).trans (Fx.si (Or.inl ⟨rfl, rfl⟩)), si_at, fun j hj => ?_⟩
    rw [si_ne (by omega)]
    by_cases cj : j = i
    · rw [cj, si_at]
    · rw [si_ne (by omega)]; exact f j (by omega)
  · obtain rfl : i = 4 := by omega
    simp (maxSteps := 3000000) (disch := first | assumption | omega) only [m_X12_bytes_L3, bO_v, bR_v, bX_l, bX_r, bC_l, bC_r, aLet_v, nI_add, pk_mul, dvI_n, rmI_n, iMax_n, iMin_n, zO_0, zO_1, li_0, li_1, li_2, li_3, li_4, li_5, li_6, li_7, li_8, li_9, li_10, li_12, li_14, li_15, li_16, li_18, li_19, li_20, li_22, li_23, li_24, li_26, li_29, li_30, li_31, li_32, li_36, li_38, li_48, li_50, li_57, li_58, li_59, li_60, li_63, li_97, li_99, li_120, li_122, li_144, li_168, li_194, li_240, li_255, li_284, li_299, li_603, li_999, li_1200, li_1440, li_4095, li_4096, li_6030, li_16384, li_20160, zl0, zl1, zl2, zl3, zl4, ze01, ze02, ze03, ze04, ze10, ze12, ze13, ze14, ze20, ze21, ze23, ze24, ze30, ze31, ze32, ze34, ze40, ze41, ze42, ze43, zt0, zt1, zt2, zt3, zt4, zq0, zq1, zq2, zq3, zq4, it_t, it_f, Bool.true_eq_false, Bool.false_eq_true, na5, na4, na1441, na2, na10, sx_IOIA, sx_IOIS, sx_IONS, sx_IAIO, sx_IAIS, sx_IANS, sx_ISIO, sx_ISIA, sx_ISNS, sx_NSIO, sx_NSIA, sx_NSIS, if_pos sft_e]
    rw [hk39, ← hK]
    exact ok_ret ⟨F, g1, f⟩
/-- the bytes of five numbers -/
def b20 (a b c d e : Int32) (i : Nat) : Nat := if i < 4 then bv a i else if i < 8 then bv b (i - 4) else if i < 12 then bv c (i - 8) else if i < 16 then bv d (i - 12) else bv e (i - 16)
theorem b20_lt {a b c d e : Int32} {i : Nat} : b20 a b c d e i < 256 := by
  unfold b20
  split
  · exact (bv_n _ _).2
  · split
    · exact (bv_n _ _).2
    · split
      · exact (bv_n _ _).2
      · split
        · exact (bv_n _ _).2
        · exact (bv_n _ _).2
def apT (T : Nat → Nat → Nat) (l : Nat) (f : Nat → Nat) : Nat → Nat → Nat := fun o k => if o = 412 ∧ k = 29 then l + 20 else if o = 435 ∧ l ≤ k ∧ k < l + 20 then f (k - l) else T o k
theorem apT_o {l o : Nat} {f : Nat → Nat} (h1 : o ≠ 412) (h2 : o ≠ 435) : apT T l f o = T o := funext fun k => by unfold apT; rw [if_neg (by omega), if_neg (by omega)]
theorem apT_k {l k : Nat} {f : Nat → Nat} (h1 : k ≠ 29) : apT T l f 412 k = T 412 k := by unfold apT; rw [if_neg (by omega), if_neg (by omega)]
theorem q_append (I : IV h T P Q) (a b c d e : Int32) : QG h (m_L_append 1 a b c d e 462 h) (m_X12_append 412 a b c d e) := by
  have hS := I.sh
  have tx := I.tx
  obtain ⟨t1, t2, t3⟩ := tx
  have qp := pl_in P I.hP
  have z1 : (nI 1 ≤ nI 0) = False := eq_false (by decide)
  have z3 : (nI 0 ≤ nI 0) = True := eq_true (by decide)
  by_cases c20 : T 412 29 + 20 ≤ 1200
  · obtain ⟨_, g1, e1, F1, n1, f1⟩ := k_put4 hS (x := a) (show T 412 29 + 4 ≤ 1200 by omega) t1
    have S1 := F1.sh hS
    obtain ⟨_, g2, e2, F2, n2, f2⟩ := k_put4 S1 (x := b) (show T 412 29 + 4 + 4 ≤ 1200 by omega) n1
    have S2 := F2.sh S1
    obtain ⟨_, g3, e3, F3, n3, f3⟩ := k_put4 S2 (x := c) (show T 412 29 + 4 + 4 + 4 ≤ 1200 by omega) n2
    have S3 := F3.sh S2
    obtain ⟨_, g4, e4, F4, n4, f4⟩ := k_put4 S3 (x := d) (show T 412 29 + 4 + 4 + 4 + 4 ≤ 1200 by omega) n3
    have S4 := F4.sh S3
    obtain ⟨_, g5, e5, F5, n5, f5⟩ := k_put4 S4 (x := e) (show T 412 29 + 4 + 4 + 4 + 4 + 4 ≤ 1200 by omega) n4
    have S5 := F5.sh S4
    have eL : m_L_append 1 a b c d e 462 h = some (nI 0, h_sL g5 462 0 (nI (T 412 29 + 4 + 4 + 4 + 4 + 4)).toInt64) := by
      simp (maxSteps := 3000000) (disch := first | assumption | omega) only [m_L_append, m_X11_append, bO_v, bR_v, bX_l, bX_r, bC_l, bC_r, aJ_v, aLet_v, nI_add, pk_mul, dvI_n, rmI_n, iMax_n, iMin_n, zO_0, zO_1, li_0, li_1, li_2, li_3, li_4, li_5, li_6, li_7, li_8, li_9, li_10, li_12, li_14, li_15, li_16, li_18, li_19, li_20, li_22, li_23, li_24, li_26, li_29, li_30, li_31, li_32, li_36, li_38, li_48, li_50, li_57, li_58, li_59, li_60, li_63, li_97, li_99, li_120, li_122, li_144, li_168, li_194, li_240, li_255, li_284, li_299, li_603, li_999, li_1200, li_1440, li_4095, li_4096, li_6030, li_16384, li_20160, zl0, zl1, zl2, zl3, zl4, ze01, ze02, ze03, ze04, ze10, ze12, ze13, ze14, ze20, ze21, ze23, ze24, ze30, ze31, ze32, ze34, ze40, ze41, ze42, ze43, zt0, zt1, zt2, zt3, zt4, zq0, zq1, zq2, zq3, zq4, it_t, it_f, Bool.true_eq_false, Bool.false_eq_true, na5, na4, na1441, na2, na10, sx_IOIA, sx_IOIS, sx_IONS, sx_IAIO, sx_IAIS, sx_IANS, sx_ISIO, sx_ISIA, sx_ISNS, sx_NSIO, sx_NSIA, sx_NSIS, c_cX_gS hS, c_cX_gi hS, t1, nI_leI, if_pos c20, e1, c_cX_gS S1, e2, c_cX_gS S2, e3, c_cX_gS S3, e4, c_cX_gS S4, e5, c_cX_gi S5, n5, c_co_as S5]
    have G5 : Fx (fun o k => (o = 1 ∧ k = 1) ∨ (o = 2 ∧ T 412 29 ≤ k)) h g5 := ((((F1.mono (fun o k r => by omega)).trans (F2.mono (fun o k r => by omega))).trans (F3.mono (fun o k r => by omega))).trans (F4.mono (fun o k r => by omega))).trans (F5.mono (fun o k r => by omega))
    have cb : ∀ i, i < 20 → h_iv g5 2 (T 412 29 + i) = byt (b20 a b c d e i) := fun i hi => by
      unfold b20
      by_cases i4 : i < 4
      · rw [if_pos i4, F5.iv (by omega), F4.iv (by omega), F3.iv (by omega), F2.iv (by omega)]; exact f1 i i4
      · rw [if_neg i4]
        by_cases i8 : i < 8
        · rw [if_pos i8, F5.iv (by omega), F4.iv (by omega), F3.iv (by omega)]
          have := f2 (i - 4) (by omega)
          rw [show T 412 29 + 4 + (i - 4) = T 412 29 + i by omega] at this; exact this
        · rw [if_neg i8]
          by_cases i12 : i < 12
          · rw [if_pos i12, F5.iv (by omega), F4.iv (by omega)]
            have := f3 (i - 8) (by omega)
            rw [show T 412 29 + 4 + 4 + (i - 8) = T 412 29 + i by omega] at this; exact this
          · rw [if_neg i12]
            by_cases i16 : i < 16
            · rw [if_pos i16, F5.iv (by omega)]
              have := f4 (i - 12) (by omega)
              rw [show T 412 29 + 4 + 4 + 4 + (i - 12) = T 412 29 + i by omega] at this; exact this
            · rw [if_neg i16]
              have := f5 (i - 16) (by omega)
              rw [show T 412 29 + 4 + 4 + 4 + 4 + (i - 16) = T 412 29 + i by omega] at this; exact this
    -- the reference
    have R0 : Sh (h_sL g5 462 0 (nI (T 412 29 + 4 + 4 + 4 + 4 + 4)).toInt64) := S5.sL _ _ _
    have r29 : h_iv (h_sL g5 462 0 (nI (T 412 29 + 4 + 4 + 4 + 4 + 4)).toInt64) 412 29 = nI (T 412 29) := (G5.iv (by omega)).trans I.z.f29
    have R1 := R0.si 412 0 (nI 0)
    have F0 : Fx (fun o k => o = 412 ∧ k = 0) (h_sL g5 462 0 (nI (T 412 29 + 4 + 4 + 4 + 4 + 4)).toInt64) (h_si (h_sL g5 462 0 (nI (T 412 29 + 4 + 4 + 4 + 4 + 4)).toInt64) 412 0 (nI 0)) := Fx.si ⟨rfl, rfl⟩
    have v0 : h_iv (h_si (h_sL g5 462 0 (nI (T 412 29 + 4 + 4 + 4 + 4 + 4)).toInt64) 412 0 (nI 0)) 412 0 = nI 0 := si_at
    have v29 : h_iv (h_si (h_sL g5 462 0 (nI (T 412 29 + 4 + 4 + 4 + 4 + 4)).toInt64) 412 0 (nI 0)) 412 29 = nI (T 412 29) := by rw [si_ne (by omega)]; exact r29
    obtain ⟨_, k1, y1, H1, m1, j1⟩ := y_bytes R1 (x := a) (show T 412 29 + 4 ≤ 1200 by omega) v29
    have Q1 := H1.sh R1
    obtain ⟨_, k2, y2, H2, m2, j2⟩ := y_bytes Q1 (x := b) (show T 412 29 + 4 + 4 ≤ 1200 by omega) m1
    have Q2 := H2.sh Q1
    obtain ⟨_, k3, y3, H3, m3, j3⟩ := y_bytes Q2 (x := c) (show T 412 29 + 4 + 4 + 4 ≤ 1200 by omega) m2
    have Q3 := H3.sh Q2
    obtain ⟨_, k4, y4, H4, m4, j4⟩ := y_bytes Q3 (x := d) (show T 412 29 + 4 + 4 + 4 + 4 ≤ 1200 by omega) m3
    have Q4 := H4.sh Q3
    obtain ⟨_, k5, y5, H5, m5, j5⟩ := y_bytes Q4 (x := e) (show T 412 29 + 4 + 4 + 4 + 4 + 4 ≤ 1200 by omega) m4
    have Q5 := H5.sh Q4
    have eR : m_X12_append 412 a b c d e (h_sL g5 462 0 (nI (T 412 29 + 4 + 4 + 4 + 4 + 4)).toInt64) = some (nI (T 412 29 + 4 + 4 + 4 + 4 + 4), k5) := by
      simp (maxSteps := 3000000) (disch := first | assumption | omega) only [m_X12_append, bO_v, bR_v, bX_l, bX_r, bC_l, bC_r, aJ_v, aLet_v, nI_add, pk_mul, dvI_n, rmI_n, iMax_n, iMin_n, zO_0, zO_1, li_0, li_1, li_2, li_3, li_4, li_5, li_6, li_7, li_8, li_9, li_10, li_12, li_14, li_15, li_16, li_18, li_19, li_20, li_22, li_23, li_24, li_26, li_29, li_30, li_31, li_32, li_36, li_38, li_48, li_50, li_57, li_58, li_59, li_60, li_63, li_97, li_99, li_120, li_122, li_144, li_168, li_194, li_240, li_255, li_284, li_299, li_603, li_999, li_1200, li_1440, li_4095, li_4096, li_6030, li_16384, li_20160, zl0, zl1, zl2, zl3, zl4, ze01, ze02, ze03, ze04, ze10, ze12, ze13, ze14, ze20, ze21, ze23, ze24, ze30, ze31, ze32, ze34, ze40, ze41, ze42, ze43, zt0, zt1, zt2, zt3, zt4, zq0, zq1, zq2, zq3, zq4, it_t, it_f, Bool.true_eq_false, Bool.false_eq_true, na5, na4, na1441, na2, na10, sx_IOIA, sx_IOIS, sx_IONS, sx_IAIO, sx_IAIS, sx_IANS, sx_ISIO, sx_ISIA, sx_ISNS, sx_NSIO, sx_NSIA, sx_NSIS, r_cM_gi R0, r29, nI_leI, if_pos c20, r_cM_pi R0, r_cM_gi R1, v0, z3, r_cM_gS R1, y1, r_cM_gS Q1, y2, r_cM_gS Q2, y3, r_cM_gS Q3, y4, r_cM_gS Q4, y5, r_cM_gi Q5, m5]
    have K5 : Fx (fun o k => (o = 412 ∧ (k = 0 ∨ k = 29)) ∨ (o = 435 ∧ T 412 29 ≤ k ∧ k < T 412 29 + 20)) (h_sL g5 462 0 (nI (T 412 29 + 4 + 4 + 4 + 4 + 4)).toInt64) k5 := (((((F0.mono (fun o k r => by omega)).trans (H1.mono (fun o k r => by omega))).trans (H2.mono (fun o k r => by omega))).trans (H3.mono (fun o k r => by omega))).trans (H4.mono (fun o k r => by omega))).trans (H5.mono (fun o k r => by omega))
    have rb : ∀ i, i < 20 → h_iv k5 435 (T 412 29 + i) = nI (b20 a b c d e i) := fun i hi => by
      unfold b20
      by_cases i4 : i < 4
      · rw [if_pos i4, H5.iv (by omega), H4.iv (by omega), H3.iv (by omega), H2.iv (by omega)]; exact j1 i i4
      · rw [if_neg i4]
        by_cases i8 : i < 8
        · rw [if_pos i8, H5.iv (by omega), H4.iv (by omega), H3.iv (by omega)]
          have := j2 (i - 4) (by omega)
          rw [show T 412 29 + 4 + (i - 4) = T 412 29 + i by omega] at this; exact this
        · rw [if_neg i8]
          by_cases i12 : i < 12
          · rw [if_pos i12, H5.iv (by omega), H4.iv (by omega)]
            have := j3 (i - 8) (by omega)
            rw [show T 412 29 + 4 + 4 + (i - 8) = T 412 29 + i by omega] at this; exact this
          · rw [if_neg i12]
            by_cases i16 : i < 16
            · rw [if_pos i16, H5.iv (by omega)]
              have := j4 (i - 12) (by omega)
              rw [show T 412 29 + 4 + 4 + 4 + (i - 12) = T 412 29 + i by omega] at this; exact this
            · rw [if_neg i16]
              have := j5 (i - 16) (by omega)
              rw [show T 412 29 + 4 + 4 + 4 + 4 + (i - 16) = T 412 29 + i by omega] at this; exact this
    have iv : ∀ o k, ¬ ((o = 412 ∧ (k = 0 ∨ k = 29)) ∨ (o = 435 ∧ T 412 29 ≤ k ∧ k < T 412 29 + 20)) → ¬ ((o = 1 ∧ k = 1) ∨ (o = 2 ∧ T 412 29 ≤ k)) → h_iv k5 o k = h_iv h o k := fun o k q1 q2 => (K5.iv q1).trans (G5.iv q2)
    have lv : ∀ o k, o ≠ 462 → h_lv k5 o k = h_lv h o k := fun o k q => by
      rw [K5.2.2.2.2.2.1]
      exact (u2n (by omega)).trans (congrFun (congrFun G5.2.2.2.2.2.1 o) k)
    have rv : h_rv k5 = h_rv h := K5.2.2.2.2.1.trans G5.2.2.2.2.1
    have nxe : h_nx k5 = h_nx h := K5.1.trans G5.1
    have sle : h_sl k5 = h_sl h := K5.2.1.trans G5.2.1
    have I2 : IV k5 (apT T (T 412 29) (b20 a b c d e)) P Q := by
      have a29 : apT T (T 412 29) (b20 a b c d e) 412 29 = T 412 29 + 20 := if_pos ⟨rfl, rfl⟩
      have b29 : h_iv k5 412 29 = nI (T 412 29 + 20) := by rw [m5]
      refine I.txt Q5 (fun o q1 q2 => apT_o (by omega) (by omega)) (fun k q1 q2 => apT_k q1) ⟨fun o k r => ?_, fun o k => ?_⟩ (by rw [rv]; exact I.pl) (by rw [rv]; exact I.sp) (fun o q1 => funext fun k => iv o k (by omega) (by omega)) (fun o k _ => by rw [rv]) (fun o k q1 => lv o k (by omega)) ⟨?_, by rw [a29]; omega, fun k hk => ?_⟩ ⟨?_, ?_⟩ (fun o k q1 q2 q3 => by rw [iv o k (by omega) (by omega)]; exact I.jn o k q1 q2 q3)
      · unfold apT
        by_cases c1 : o = 412 ∧ k = 29
        · rw [if_pos c1, c1.1, c1.2]; exact b29
        · rw [if_neg c1]
          by_cases c2 : o = 435 ∧ T 412 29 ≤ k ∧ k < T 412 29 + 20
          · rw [if_pos c2, c2.1]
            have := rb (k - T 412 29) (by omega)
            rw [show T 412 29 + (k - T 412 29) = k by omega] at this; exact this
          · rw [if_neg c2, iv o k (by unfold rfC at r; omega) (by unfold rfC at r; omega)]
            exact I.z.1 o k r
      · unfold apT
        split
        · omega
        · split
          · have := b20_lt (a := a) (b := b) (c := c) (d := d) (e := e) (i := k - T 412 29)
            omega
          · exact I.z.2 o k
      · rw [a29, K5.iv (by omega)]; exact n5
      · rw [a29] at hk
        have e435 : apT T (T 412 29) (b20 a b c d e) 435 k = if T 412 29 ≤ k ∧ k < T 412 29 + 20 then b20 a b c d e (k - T 412 29) else T 435 k := by
          unfold apT
          rw [if_neg (by omega)]
          by_cases c2 : T 412 29 ≤ k ∧ k < T 412 29 + 20
          · rw [if_pos ⟨rfl, c2⟩, if_pos c2]
          · rw [if_neg (fun q => c2 q.2), if_neg c2]
        rw [e435]
        by_cases c2 : T 412 29 ≤ k
        · rw [if_pos ⟨c2, hk⟩, K5.iv (by omega)]
          have := cb (k - T 412 29) (by omega)
          rw [show T 412 29 + (k - T 412 29) = k by omega] at this
          exact ⟨b20_lt, this⟩
        · rw [if_neg (by omega), iv 2 k (by omega) (by omega)]
          exact t3 k (by omega)
      · rw [iv 3 9 (by omega) (by omega), iv 412 31 (by omega) (by omega)]; exact I.er.1
      · rw [iv 3 10 (by omega) (by omega), iv 412 32 (by omega) (by omega)]; exact I.er.2
    refine ⟨0, nI (T 412 29 + 4 + 4 + 4 + 4 + 4), by decide, _, _, eL, rfl, fun _ => sL_at, _, k5, eR, fun _ => rfl, ?_, by rw [K5.2.2.2.2.2.1], ⟨_, P, Q, I2⟩, by omega, by omega⟩
    rw [H5.iv (by omega), H4.iv (by omega), H3.iv (by omega), H2.iv (by omega), H1.iv (by omega)]; exact v0
  · refine qg_mk (k := 1) (v := 0) I (by decide) (cq_exc ?_ (by decide)) (fun h1 I1 => ?_)
    · simp (maxSteps := 3000000) (disch := first | assumption | omega) only [m_L_append, m_X11_append, bO_v, bR_v, bX_l, bX_r, bC_l, bC_r, aJ_v, aLet_v, nI_add, pk_mul, dvI_n, rmI_n, iMax_n, iMin_n, zO_0, zO_1, li_0, li_1, li_2, li_3, li_4, li_5, li_6, li_7, li_8, li_9, li_10, li_12, li_14, li_15, li_16, li_18, li_19, li_20, li_22, li_23, li_24, li_26, li_29, li_30, li_31, li_32, li_36, li_38, li_48, li_50, li_57, li_58, li_59, li_60, li_63, li_97, li_99, li_120, li_122, li_144, li_168, li_194, li_240, li_255, li_284, li_299, li_603, li_999, li_1200, li_1440, li_4095, li_4096, li_6030, li_16384, li_20160, zl0, zl1, zl2, zl3, zl4, ze01, ze02, ze03, ze04, ze10, ze12, ze13, ze14, ze20, ze21, ze23, ze24, ze30, ze31, ze32, ze34, ze40, ze41, ze42, ze43, zt0, zt1, zt2, zt3, zt4, zq0, zq1, zq2, zq3, zq4, it_t, it_f, Bool.true_eq_false, Bool.false_eq_true, na5, na4, na1441, na2, na10, sx_IOIA, sx_IOIS, sx_IONS, sx_IAIO, sx_IAIS, sx_IANS, sx_ISIO, sx_ISIA, sx_ISNS, sx_NSIO, sx_NSIA, sx_NSIS, c_cX_gS hS, c_cX_gi hS, t1, nI_leI, if_neg c20, eq_self]
    · have S1 := I1.sh
      have R1 := S1.si 412 0 (nI 1)
      have v0 : h_iv (h_si h1 412 0 (nI 1)) 412 0 = nI 1 := si_at
      refine rq_exc (w := nI 0) ?_ (by decide)
      simp (maxSteps := 3000000) (disch := first | assumption | omega) only [m_X12_append, bO_v, bR_v, bX_l, bX_r, bC_l, bC_r, aJ_v, aLet_v, nI_add, pk_mul, dvI_n, rmI_n, iMax_n, iMin_n, zO_0, zO_1, li_0, li_1, li_2, li_3, li_4, li_5, li_6, li_7, li_8, li_9, li_10, li_12, li_14, li_15, li_16, li_18, li_19, li_20, li_22, li_23, li_24, li_26, li_29, li_30, li_31, li_32, li_36, li_38, li_48, li_50, li_57, li_58, li_59, li_60, li_63, li_97, li_99, li_120, li_122, li_144, li_168, li_194, li_240, li_255, li_284, li_299, li_603, li_999, li_1200, li_1440, li_4095, li_4096, li_6030, li_16384, li_20160, zl0, zl1, zl2, zl3, zl4, ze01, ze02, ze03, ze04, ze10, ze12, ze13, ze14, ze20, ze21, ze23, ze24, ze30, ze31, ze32, ze34, ze40, ze41, ze42, ze43, zt0, zt1, zt2, zt3, zt4, zq0, zq1, zq2, zq3, zq4, it_t, it_f, Bool.true_eq_false, Bool.false_eq_true, na5, na4, na1441, na2, na10, sx_IOIA, sx_IOIS, sx_IONS, sx_IAIO, sx_IAIS, sx_IANS, sx_ISIO, sx_ISIA, sx_ISNS, sx_NSIO, sx_NSIA, sx_NSIS, r_cM_gi S1, I1.z.f29, nI_leI, if_neg c20, r_cM_pi S1, r_cM_gi R1, v0, z1]
theorem q_truncate (I : IV h T P Q) (x : Int32) : QG h (m_L_truncate 1 x 462 h) (m_X12_truncate 412 x) := by
  have hS := I.sh
  obtain ⟨t1, t2, t3⟩ := I.tx
  have qp := pl_in P I.hP
  have z : (nI 0 = nI 0) = True := eq_self _
  have z1 : (nI 1 ≤ nI 0) = False := eq_false (by decide)
  have z3 : (nI 0 ≤ nI 0) = True := eq_true (by decide)
  have nin : ∀ g, m_X12_in (x.toInt64) (0 : Int64) ((nI (T 412 29)).toInt64) g = some (b2i (inr x (T 412 29 + 1)), g) := fun g => by
    rw [r_in, nI_toInt (by omega)]
    congr 3
    unfold inr
    exact decide_eq_decide.mpr (by omega)
  cases c : inr x (T 412 29 + 1)
  · refine qg_mk (k := 1) (v := 0) I (by decide) (cq_exc ?_ (by decide)) (fun h1 I1 => ?_)
    · simp (maxSteps := 3000000) (disch := first | assumption | omega) only [m_L_truncate, m_X11_truncate, bO_v, bR_v, bX_l, bX_r, bC_l, bC_r, aJ_v, aLet_v, nI_add, pk_mul, dvI_n, rmI_n, iMax_n, iMin_n, zO_0, zO_1, li_0, li_1, li_2, li_3, li_4, li_5, li_6, li_7, li_8, li_9, li_10, li_12, li_14, li_15, li_16, li_18, li_19, li_20, li_22, li_23, li_24, li_26, li_29, li_30, li_31, li_32, li_36, li_38, li_48, li_50, li_57, li_58, li_59, li_60, li_63, li_97, li_99, li_120, li_122, li_144, li_168, li_194, li_240, li_255, li_284, li_299, li_603, li_999, li_1200, li_1440, li_4095, li_4096, li_6030, li_16384, li_20160, zl0, zl1, zl2, zl3, zl4, ze01, ze02, ze03, ze04, ze10, ze12, ze13, ze14, ze20, ze21, ze23, ze24, ze30, ze31, ze32, ze34, ze40, ze41, ze42, ze43, zt0, zt1, zt2, zt3, zt4, zq0, zq1, zq2, zq3, zq4, it_t, it_f, Bool.true_eq_false, Bool.false_eq_true, na5, na4, na1441, na2, na10, sx_IOIA, sx_IOIS, sx_IONS, sx_IAIO, sx_IAIS, sx_IANS, sx_ISIO, sx_ISIA, sx_ISNS, sx_NSIO, sx_NSIA, sx_NSIS, c_cX_gS hS, c_cX_gi hS, t1, ndle, c, eq_self]
    · have S1 := I1.sh
      have R1 := S1.si 412 0 (nI 1)
      have v0 : h_iv (h_si h1 412 0 (nI 1)) 412 0 = nI 1 := si_at
      have b0 : b2i false = nI 0 := rfl
      refine rq_exc (w := nI 0) ?_ (by decide)
      simp (maxSteps := 3000000) (disch := first | assumption | omega) only [m_X12_truncate, bO_v, bR_v, bX_l, bX_r, bC_l, bC_r, aJ_v, aLet_v, nI_add, pk_mul, dvI_n, rmI_n, iMax_n, iMin_n, zO_0, zO_1, li_0, li_1, li_2, li_3, li_4, li_5, li_6, li_7, li_8, li_9, li_10, li_12, li_14, li_15, li_16, li_18, li_19, li_20, li_22, li_23, li_24, li_26, li_29, li_30, li_31, li_32, li_36, li_38, li_48, li_50, li_57, li_58, li_59, li_60, li_63, li_97, li_99, li_120, li_122, li_144, li_168, li_194, li_240, li_255, li_284, li_299, li_603, li_999, li_1200, li_1440, li_4095, li_4096, li_6030, li_16384, li_20160, zl0, zl1, zl2, zl3, zl4, ze01, ze02, ze03, ze04, ze10, ze12, ze13, ze14, ze20, ze21, ze23, ze24, ze30, ze31, ze32, ze34, ze40, ze41, ze42, ze43, zt0, zt1, zt2, zt3, zt4, zq0, zq1, zq2, zq3, zq4, it_t, it_f, Bool.true_eq_false, Bool.false_eq_true, na5, na4, na1441, na2, na10, sx_IOIA, sx_IOIS, sx_IONS, sx_IAIO, sx_IAIS, sx_IANS, sx_ISIO, sx_ISIA, sx_ISNS, sx_NSIO, sx_NSIA, sx_NSIS, r_cM_gi S1, I1.z.f29, nin, c, b0, z, r_cM_pi S1, r_cM_gi R1, v0, z1]
  · obtain ⟨j, hj, rfl⟩ := inr_t c (by omega)
    have S1 := hS.si 1 1 (nI j)
    have a1 : h_iv (h_si h 1 1 (nI j)) 1 1 = nI j := si_at
    have eL : m_L_truncate 1 (nI j) 462 h = some (nI 0, h_sL (h_si h 1 1 (nI j)) 462 0 (nI j).toInt64) := by
      simp (maxSteps := 3000000) (disch := first | assumption | omega) only [m_L_truncate, m_X11_truncate, bO_v, bR_v, bX_l, bX_r, bC_l, bC_r, aJ_v, aLet_v, nI_add, pk_mul, dvI_n, rmI_n, iMax_n, iMin_n, zO_0, zO_1, li_0, li_1, li_2, li_3, li_4, li_5, li_6, li_7, li_8, li_9, li_10, li_12, li_14, li_15, li_16, li_18, li_19, li_20, li_22, li_23, li_24, li_26, li_29, li_30, li_31, li_32, li_36, li_38, li_48, li_50, li_57, li_58, li_59, li_60, li_63, li_97, li_99, li_120, li_122, li_144, li_168, li_194, li_240, li_255, li_284, li_299, li_603, li_999, li_1200, li_1440, li_4095, li_4096, li_6030, li_16384, li_20160, zl0, zl1, zl2, zl3, zl4, ze01, ze02, ze03, ze04, ze10, ze12, ze13, ze14, ze20, ze21, ze23, ze24, ze30, ze31, ze32, ze34, ze40, ze41, ze42, ze43, zt0, zt1, zt2, zt3, zt4, zq0, zq1, zq2, zq3, zq4, it_t, it_f, Bool.true_eq_false, Bool.false_eq_true, na5, na4, na1441, na2, na10, sx_IOIA, sx_IOIS, sx_IONS, sx_IAIO, sx_IAIS, sx_IANS, sx_ISIO, sx_ISIA, sx_ISNS, sx_NSIO, sx_NSIA, sx_NSIS, c_cX_gS hS, c_cX_gi hS, t1, ndle, c, c_cX_pi hS, c_cX_gi S1, a1, c_co_as S1]
    have R0 : Sh (h_sL (h_si h 1 1 (nI j)) 462 0 (nI j).toInt64) := S1.sL _ _ _
    have r29 : h_iv (h_sL (h_si h 1 1 (nI j)) 462 0 (nI j).toInt64) 412 29 = nI (T 412 29) := (show h_iv (h_si h 1 1 (nI j)) 412 29 = nI (T 412 29) from (si_ne (by omega)).trans I.z.f29)
    have R1 := R0.si 412 0 (nI 0)
    have v0 : h_iv (h_si (h_sL (h_si h 1 1 (nI j)) 462 0 (nI j).toInt64) 412 0 (nI 0)) 412 0 = nI 0 := si_at
    have b0 : b2i true = nI 1 := rfl
    have z4 : (nI 1 = nI 0) = False := eq_false (by decide)
    have eR : m_X12_truncate 412 (nI j) (h_sL (h_si h 1 1 (nI j)) 462 0 (nI j).toInt64) = some (nI j, h_si (h_si (h_sL (h_si h 1 1 (nI j)) 462 0 (nI j).toInt64) 412 0 (nI 0)) 412 29 (nI j)) := by
      simp (maxSteps := 3000000) (disch := first | assumption | omega) only [m_X12_truncate, bO_v, bR_v, bX_l, bX_r, bC_l, bC_r, aJ_v, aLet_v, nI_add, pk_mul, dvI_n, rmI_n, iMax_n, iMin_n, zO_0, zO_1, li_0, li_1, li_2, li_3, li_4, li_5, li_6, li_7, li_8, li_9, li_10, li_12, li_14, li_15, li_16, li_18, li_19, li_20, li_22, li_23, li_24, li_26, li_29, li_30, li_31, li_32, li_36, li_38, li_48, li_50, li_57, li_58, li_59, li_60, li_63, li_97, li_99, li_120, li_122, li_144, li_168, li_194, li_240, li_255, li_284, li_299, li_603, li_999, li_1200, li_1440, li_4095, li_4096, li_6030, li_16384, li_20160, zl0, zl1, zl2, zl3, zl4, ze01, ze02, ze03, ze04, ze10, ze12, ze13, ze14, ze20, ze21, ze23, ze24, ze30, ze31, ze32, ze34, ze40, ze41, ze42, ze43, zt0, zt1, zt2, zt3, zt4, zq0, zq1, zq2, zq3, zq4, it_t, it_f, Bool.true_eq_false, Bool.false_eq_true, na5, na4, na1441, na2, na10, sx_IOIA, sx_IOIS, sx_IONS, sx_IAIO, sx_IAIS, sx_IANS, sx_ISIO, sx_ISIA, sx_ISNS, sx_NSIO, sx_NSIA, sx_NSIS, r_cM_gi R0, r29, nin, c, b0, z4, r_cM_pi R0, r_cM_gi R1, v0, z3, r_cM_pi R1]
    have iv : ∀ o k, ¬ (o = 412 ∧ (k = 0 ∨ k = 29)) → ¬ (o = 1 ∧ k = 1) → h_iv (h_si (h_si (h_sL (h_si h 1 1 (nI j)) 462 0 (nI j).toInt64) 412 0 (nI 0)) 412 29 (nI j)) o k = h_iv h o k := fun o k q1 q2 => by
      rw [si_ne (by omega), si_ne (by omega)]
      exact si_ne (by omega)
    have i29 : h_iv (h_si (h_si (h_sL (h_si h 1 1 (nI j)) 462 0 (nI j).toInt64) 412 0 (nI 0)) 412 29 (nI j)) 412 29 = nI j := si_at
    have i0 : h_iv (h_si (h_si (h_sL (h_si h 1 1 (nI j)) 462 0 (nI j).toInt64) 412 0 (nI 0)) 412 29 (nI j)) 412 0 = nI 0 := by rw [si_ne (by omega), si_at]
    have i11 : h_iv (h_si (h_si (h_sL (h_si h 1 1 (nI j)) 462 0 (nI j).toInt64) 412 0 (nI 0)) 412 29 (nI j)) 1 1 = nI j := by
      rw [si_ne (by omega), si_ne (by omega)]
      exact a1
    have I2 : IV (h_si (h_si (h_sL (h_si h 1 1 (nI j)) 462 0 (nI j).toInt64) 412 0 (nI 0)) 412 29 (nI j)) (fun o k => if o = 412 ∧ k = 29 then j else T o k) P Q := by
      have eT : ∀ o k, ¬ (o = 412 ∧ k = 29) → (if o = 412 ∧ k = 29 then j else T o k) = T o k := fun o k q => if_neg q
      refine I.txt ((R1.si _ _ _)) (fun o q1 q2 => funext fun k => eT o k (by omega)) (fun k q1 q2 => eT _ _ (by omega)) ⟨fun o k r => ?_, fun o k => ?_⟩ I.pl I.sp (fun o q1 => funext fun k => iv o k (by omega) (by omega)) (fun o k _ => rfl) (fun o k q1 => (u2n (by omega) : h_lv (h_sL (h_si h 1 1 (nI j)) 462 0 (nI j).toInt64) o k = h_lv h o k)) ⟨?_, ?_, fun k hk => ?_⟩ ⟨?_, ?_⟩ (fun o k q1 q2 q3 => by rw [iv o k (by omega) (by omega)]; exact I.jn o k q1 q2 q3)
      · dsimp only
        by_cases c1 : o = 412 ∧ k = 29
        · rw [if_pos c1, c1.1, c1.2]; exact i29
        · rw [if_neg c1, iv o k (by unfold rfC at r; omega) (by unfold rfC at r; omega)]
          exact I.z.1 o k r
      · show (if o = 412 ∧ k = 29 then j else T o k) < 2147483648
        split
        · omega
        · exact I.z.2 o k
      · rw [if_pos ⟨rfl, rfl⟩]; exact i11
      · rw [if_pos ⟨rfl, rfl⟩]; omega
      · rw [if_pos ⟨rfl, rfl⟩] at hk
        rw [if_neg (by omega), iv 2 k (by omega) (by omega)]
        exact t3 k (by omega)
      · rw [iv 3 9 (by omega) (by omega), iv 412 31 (by omega) (by omega)]; exact I.er.1
      · rw [iv 3 10 (by omega) (by omega), iv 412 32 (by omega) (by omega)]; exact I.er.2
    refine ⟨0, nI j, by decide, _, _, eL, rfl, fun _ => sL_at, _, _, eR, fun _ => rfl, i0, rfl, ⟨_, P, Q, I2⟩, ?_, ?_⟩
    · show h_nx h ≤ h_nx h + 2
      omega
    · show h_sl h ≤ h_sl h + 24
      omega
end
