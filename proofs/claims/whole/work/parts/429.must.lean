section
variable {h : aH} {P : Nat} {T : Nat → Nat → Nat}
theorem k_mplan (hS : Sh h) (hP : P ∈ plL) (pl : h_rv h 172 1 = P) : gr h 4 172 1 = some P := gr_ok9 (c_cU hS) pl (pl_ne0 P hP)
theorem fwd_lt {ar : Nat → Nat} {N A d : Nat} : fwd ar N A d < 2 ^ N := mk_lt N
theorem k_freeWithin (hS : Sh h) (hP : P ∈ plL) (pl : h_rv h 172 1 = P) (y : PlR h P T) (hD : PlD T) {A d : Nat} {ar : Nat → Nat} (hf : h_iv h 172 5 = nI A) (hA : A < 2 ^ T 412 8) (har : ∀ p, p < T 412 8 → h_iv h 174 p = nI (ar p)) (hb : ∀ p, p < T 412 8 → ar p ≤ 150) (hd : d < 2147483648) : m_X4_freeWithin 172 (nI d) h = some (nI (fwd ar (T 412 8) A d), h) := by
  have d0 := hD.nP
  have hA2 := two_pow_lt d0 hA
  have mp := k_mplan hS hP pl
  simp only [m_X4_freeWithin, aJ_v]
  refine aL2_run (R := fun o => o = some (nI (fwd ar (T 412 8) A d), h)) (fun m s1 s2 h1 => h1 = h ∧ ∃ i, i ≤ T 412 8 ∧ m = T 412 8 - i ∧ s2 = nI i ∧ s1 = nI (mk (fun p => A.testBit p && decide (ar p ≤ d)) i)) ⟨rfl, 0, Nat.zero_le _, rfl, rfl, rfl⟩ (by omega) ?_
  rintro rec m s1 s2 h1 ⟨rfl, i, hi, rfl, rfl, rfl⟩ ih
  by_cases hlt : i < T 412 8
  · have b1 := hb i hlt
    simp (maxSteps := 3000000) (disch := first | assumption | omega) only [m_X4_freeWithin_L4, bO_v, bR_v, bX_l, bX_r, bC_l, bC_r, aLet_v, nI_add, pk_mul, dvI_n, rmI_n, iMax_n, iMin_n, zO_0, zO_1, li_0, li_1, li_2, li_3, li_4, li_5, li_6, li_7, li_8, li_9, li_10, li_12, li_14, li_15, li_16, li_18, li_19, li_20, li_22, li_23, li_24, li_26, li_29, li_30, li_31, li_32, li_36, li_38, li_48, li_50, li_57, li_58, li_59, li_60, li_63, li_97, li_99, li_120, li_122, li_144, li_168, li_194, li_240, li_255, li_284, li_299, li_603, li_999, li_1200, li_1440, li_4095, li_4096, li_6030, li_16384, li_20160, mp, p_cP_gi hS hP, c_cU_gi hS, y.nP, hf, k_has, b2i_0, nI_ltI]
    rw [if_pos hlt]
    refine aJ_gen (R := fun o => o = some (nI (fwd ar (T 412 8) A d), h1)) (fun k42 hk42 => ?_)
    have K : ∀ b, (A.testBit i && decide (ar i ≤ d)) = b → k42 (nI (if b then mk (fun p => A.testBit p && decide (ar p ≤ d)) i ||| 2 ^ i else mk (fun p => A.testBit p && decide (ar p ≤ d)) i)) h1 = some (nI (fwd ar (T 412 8) A d), h1) := fun b hb2 => by
      rw [hk42]
      simp only [bO_v, bR_v, bX_l, bX_r, bC_l, bC_r, aLet_v, nI_add, pk_mul, dvI_n, rmI_n, iMax_n, iMin_n, zO_0, zO_1, li_0, li_1, li_2, li_3, li_4, li_5, li_6, li_7, li_8, li_9, li_10, li_12, li_14, li_15, li_16, li_18, li_19, li_20, li_22, li_23, li_24, li_26, li_29, li_30, li_31, li_32, li_36, li_38, li_48, li_50, li_57, li_58, li_59, li_60, li_63, li_97, li_99, li_120, li_122, li_144, li_168, li_194, li_240, li_255, li_284, li_299, li_603, li_999, li_1200, li_1440, li_4095, li_4096, li_6030, li_16384, li_20160]
      refine ih _ _ _ _ (by omega) ⟨rfl, i + 1, hlt, rfl, rfl, ?_⟩
      rw [mk, hb2]
      cases b <;> simp
    cases c1 : A.testBit i
    · rw [if_pos rfl]
      have := K false (by rw [c1]; rfl)
      simpa using this
    · rw [if_neg (by decide)]
      simp (maxSteps := 3000000) (disch := first | assumption | omega) only [bO_v, bR_v, bX_l, bX_r, bC_l, bC_r, aLet_v, nI_add, pk_mul, dvI_n, rmI_n, iMax_n, iMin_n, zO_0, zO_1, li_0, li_1, li_2, li_3, li_4, li_5, li_6, li_7, li_8, li_9, li_10, li_12, li_14, li_15, li_16, li_18, li_19, li_20, li_22, li_23, li_24, li_26, li_29, li_30, li_31, li_32, li_36, li_38, li_48, li_50, li_57, li_58, li_59, li_60, li_63, li_97, li_99, li_120, li_122, li_144, li_168, li_194, li_240, li_255, li_284, li_299, li_603, li_999, li_1200, li_1440, li_4095, li_4096, li_6030, li_16384, li_20160, c_pu1 hS, c_cu1_al hS, har i hlt, nI_leI, shl1_n, fa_or]
      by_cases c2 : ar i ≤ d
      · rw [if_pos c2]
        have := K true (by rw [c1, decide_eq_true c2]; rfl)
        simpa using this
      · rw [if_neg c2]
        have := K false (by rw [c1, decide_eq_false c2]; rfl)
        simpa using this
  · obtain rfl : i = T 412 8 := by omega
    simp (maxSteps := 3000000) (disch := first | assumption | omega) only [m_X4_freeWithin_L4, bO_v, bR_v, bX_l, bX_r, bC_l, bC_r, aLet_v, nI_add, pk_mul, dvI_n, rmI_n, iMax_n, iMin_n, zO_0, zO_1, li_0, li_1, li_2, li_3, li_4, li_5, li_6, li_7, li_8, li_9, li_10, li_12, li_14, li_15, li_16, li_18, li_19, li_20, li_22, li_23, li_24, li_26, li_29, li_30, li_31, li_32, li_36, li_38, li_48, li_50, li_57, li_58, li_59, li_60, li_63, li_97, li_99, li_120, li_122, li_144, li_168, li_194, li_240, li_255, li_284, li_299, li_603, li_999, li_1200, li_1440, li_4095, li_4096, li_6030, li_16384, li_20160, mp, p_cP_gi hS hP, y.nP, nI_ltI]
    rw [if_neg hlt]
    rfl
/-- the demand of an engine, by the skills of its posts -/
theorem dmd_is (hD : PlD T) {e s : Nat} (he : e < T 412 10) : dmd T e s (T 426 e) = fb_ct (fun k => s.testBit (tyE T e k)) (T 426 e) := fb_ct_cong (fun k hk => by
  rw [pbit_is (hD.psk e he k hk)]
  exact and_bit)
theorem k_mostE (hS : Sh h) (hP : P ∈ plL) (y : PlR h P T) (hD : PlD T) {e A : Nat} (he : e < T 412 10) (hA : A < 2 ^ T 412 8) : m_X8_mostManned P (P + 34 + 3 * e) (nI A) h = some (nI (rk (tyE T e) (Kc T) (T 426 e) A), h) := by
  have d1 := hD.nE
  have d2 := hD.pst e he
  have q := p_eed hS hP (i := e) (by omega)
  exact k_mostManned hS hP y hD q.1 q.2 (fun s hs => by rw [y.dmd e he s hs, dmd_is hD he]) (fun k => ptyp_lt _) (by omega) hA
theorem k_earliest (hS : Sh h) (hP : P ∈ plL) (pl : h_rv h 172 1 = P) (y : PlR h P T) (hD : PlD T) {e A : Nat} {ar : Nat → Nat} (he : e < T 412 10) (hf : h_iv h 172 5 = nI A) (hA : A < 2 ^ T 412 8) (har : ∀ p, p < T 412 8 → h_iv h 174 p = nI (ar p)) (hb : ∀ p, p < T 412 8 → ar p ≤ 150) :
    m_X4_earliestDeparture 172 (P + 32 + 3 * e) h = some (nI (edp (tyE T e) (Kc T) ar (T 426 e) (T 412 8) A (T 412 8)), h) := by
  have d0 := hD.nP
  have d1 := hD.nE
  have d2 := hD.pst e he
  have hA2 := two_pow_lt d0 hA
  have mp := k_mplan hS hP pl
  simp only [m_X4_earliestDeparture, aJ_v]
  refine aL2_run (R := fun o => o = some (nI (edp (tyE T e) (Kc T) ar (T 426 e) (T 412 8) A (T 412 8)), h)) (fun m s1 s2 h1 => h1 = h ∧ ∃ i, i ≤ T 412 8 ∧ m = T 412 8 - i ∧ s2 = nI i ∧ s1 = nI (edp (tyE T e) (Kc T) ar (T 426 e) (T 412 8) A i)) ⟨rfl, 0, Nat.zero_le _, rfl, rfl, rfl⟩ (by omega) ?_
  rintro rec m s1 s2 h1 ⟨rfl, i, hi, rfl, rfl, rfl⟩ ih
  have eb : edp (tyE T e) (Kc T) ar (T 426 e) (T 412 8) A i ≤ 1440 := by
    rcases edp_in (t := tyE T e) (K := Kc T) (ar := ar) (n := T 426 e) (N := T 412 8) (A := A) i with q | ⟨p, q1, q2, q3, q4⟩
    · omega
    · have := hb p (by omega); omega
  by_cases hlt : i < T 412 8
  · have b1 := hb i hlt
    have b3 := rk_le (tyE T e) (Kc T) (T 426 e) (fwd ar (T 412 8) A (ar i))
    simp (maxSteps := 3000000) (disch := first | assumption | omega) only [m_X4_earliestDeparture_L6, bO_v, bR_v, bX_l, bX_r, bC_l, bC_r, aLet_v, nI_add, pk_mul, dvI_n, rmI_n, iMax_n, iMin_n, zO_0, zO_1, li_0, li_1, li_2, li_3, li_4, li_5, li_6, li_7, li_8, li_9, li_10, li_12, li_14, li_15, li_16, li_18, li_19, li_20, li_22, li_23, li_24, li_26, li_29, li_30, li_31, li_32, li_36, li_38, li_48, li_50, li_57, li_58, li_59, li_60, li_63, li_97, li_99, li_120, li_122, li_144, li_168, li_194, li_240, li_255, li_284, li_299, li_603, li_999, li_1200, li_1440, li_4095, li_4096, li_6030, li_16384, li_20160, mp, p_cP_gi hS hP, p_cP_gS hS hP, c_cU_gi hS, c_cU_gS hS, y.nP, hf, k_has, b2i_0, nI_ltI, c_pu1 hS, c_cu1_al hS, har i hlt, p_eed_p hS hP, p_ee_gi hS hP, y.pst e he, k_freeWithin hS hP pl y hD hf hA har hb (show ar i < 2147483648 by omega), k_mostE hS hP y hD he fwd_lt, nI_eq]
    rw [if_pos hlt]
    refine aJ_gen (R := fun o => o = some (nI (edp (tyE T e) (Kc T) ar (T 426 e) (T 412 8) A (T 412 8)), h1)) (fun k69 hk69 => ?_)
    have K : ∀ v, v = edp (tyE T e) (Kc T) ar (T 426 e) (T 412 8) A (i + 1) → k69 (nI v) h1 = some (nI (edp (tyE T e) (Kc T) ar (T 426 e) (T 412 8) A (T 412 8)), h1) := fun v hv => by
      rw [hk69]
      simp only [bO_v, bR_v, bX_l, bX_r, bC_l, bC_r, aLet_v, nI_add, pk_mul, dvI_n, rmI_n, iMax_n, iMin_n, zO_0, zO_1, li_0, li_1, li_2, li_3, li_4, li_5, li_6, li_7, li_8, li_9, li_10, li_12, li_14, li_15, li_16, li_18, li_19, li_20, li_22, li_23, li_24, li_26, li_29, li_30, li_31, li_32, li_36, li_38, li_48, li_50, li_57, li_58, li_59, li_60, li_63, li_97, li_99, li_120, li_122, li_144, li_168, li_194, li_240, li_255, li_284, li_299, li_603, li_999, li_1200, li_1440, li_4095, li_4096, li_6030, li_16384, li_20160]
      exact ih _ _ _ _ (by omega) ⟨rfl, i + 1, hlt, rfl, rfl, by rw [hv]⟩
    cases c1 : A.testBit i
    · rw [if_pos rfl]
      exact K _ (by rw [edp, c1]; rfl)
    · rw [if_neg (by decide)]
      by_cases c2 : ar i < edp (tyE T e) (Kc T) ar (T 426 e) (T 412 8) A i
      · rw [if_pos c2]
        by_cases c3 : rk (tyE T e) (Kc T) (T 426 e) (fwd ar (T 412 8) A (ar i)) = T 426 e
        · rw [if_pos c3]
          exact K _ (by rw [edp, c1, decide_eq_true c2, decide_eq_true c3]; rfl)
        · rw [if_neg c3]
          exact K _ (by rw [edp, c1, decide_eq_true c2, decide_eq_false c3]; rfl)
      · rw [if_neg c2]
        exact K _ (by rw [edp, c1, decide_eq_false c2]; rfl)
  · obtain rfl : i = T 412 8 := by omega
    simp (maxSteps := 3000000) (disch := first | assumption | omega) only [m_X4_earliestDeparture_L6, bO_v, bR_v, bX_l, bX_r, bC_l, bC_r, aLet_v, nI_add, pk_mul, dvI_n, rmI_n, iMax_n, iMin_n, zO_0, zO_1, li_0, li_1, li_2, li_3, li_4, li_5, li_6, li_7, li_8, li_9, li_10, li_12, li_14, li_15, li_16, li_18, li_19, li_20, li_22, li_23, li_24, li_26, li_29, li_30, li_31, li_32, li_36, li_38, li_48, li_50, li_57, li_58, li_59, li_60, li_63, li_97, li_99, li_120, li_122, li_144, li_168, li_194, li_240, li_255, li_284, li_299, li_603, li_999, li_1200, li_1440, li_4095, li_4096, li_6030, li_16384, li_20160, mp, p_cP_gi hS hP, y.nP, nI_ltI]
    rw [if_neg hlt]
theorem fcr_stop {t K : Nat → Nat} {n B N : Nat} (hB : B < 2 ^ N) : ∀ {j}, N ≤ j → fcr t K n B j = fcr t K n B N
  | 0, h => by rw [show N = 0 by omega]
  | j + 1, h => by
    by_cases e : N = j + 1
    · rw [e]
    · have hb : B.testBit j = false := Nat.testBit_lt_two_pow (Nat.lt_of_lt_of_le hB (Nat.pow_le_pow_right (by decide) (by omega)))
      rw [fcr, hb, ← fcr_stop hB (j := j) (by omega)]
      rfl
theorem k_firstCrew (hS : Sh h) (hP : P ∈ plL) (pl : h_rv h 172 1 = P) (y : PlR h P T) (hD : PlD T) {e B : Nat} (he : e < T 412 10) (hB : B < 2 ^ T 412 8) :
    m_X4_firstCrew 172 (P + 32 + 3 * e) (nI B) h = some (nI (fcr (tyE T e) (Kc T) (T 426 e) B 12), h) := by
  have d0 := hD.nP
  have d1 := hD.nE
  have d2 := hD.pst e he
  have hB2 := two_pow_lt d0 hB
  have mp := k_mplan hS hP pl
  simp only [m_X4_firstCrew, aJ_v]
  refine aL3_run (R := fun o => o = some (nI (fcr (tyE T e) (Kc T) (T 426 e) B 12), h)) (fun m s1 s2 s3 h1 => h1 = h ∧ ∃ i, i ≤ T 412 8 ∧ m = T 412 8 - i ∧ s3 = nI i ∧ s1 = nI (fcr (tyE T e) (Kc T) (T 426 e) B i) ∧ s2 = nI (sz (fcr (tyE T e) (Kc T) (T 426 e) B i))) ⟨rfl, 0, Nat.zero_le _, rfl, rfl, rfl, by show (0 : Int32) = nI (sz 0); rw [show sz 0 = 0 by decide]; rfl⟩ (by omega) ?_
  rintro rec m s1 s2 s3 h1 ⟨rfl, i, hi, rfl, rfl, rfl, rfl⟩ ih
  have f1 : sz (fcr (tyE T e) (Kc T) (T 426 e) B i) ≤ 12 := fb_ct_le _ 12
  by_cases hlt : i < T 412 8
  · have off := fcr_off (t := tyE T e) (K := Kc T) (n := T 426 e) (B := B) (i := i) (j := i) (Nat.le_refl _)
    have wl : fcr (tyE T e) (Kc T) (T 426 e) B i ||| 2 ^ i < 2 ^ T 412 8 := Nat.or_lt_two_pow (Nat.lt_of_lt_of_le (fcr_lt i) (Nat.pow_le_pow_right (by decide) (by omega))) (Nat.pow_lt_pow_right (by decide) hlt)
    have b3 := rk_le (tyE T e) (Kc T) (T 426 e) (fcr (tyE T e) (Kc T) (T 426 e) B i ||| 2 ^ i)
    have e1 : sz (fcr (tyE T e) (Kc T) (T 426 e) B i ||| 2 ^ i) = sz (fcr (tyE T e) (Kc T) (T 426 e) B i) + 1 := by rw [or_x off, sz_on (by omega) off]
    simp (maxSteps := 3000000) (disch := first | assumption | omega) only [m_X4_firstCrew_L8, bO_v, bR_v, bX_l, bX_r, bC_l, bC_r, aLet_v, nI_add, pk_mul, dvI_n, rmI_n, iMax_n, iMin_n, zO_0, zO_1, li_0, li_1, li_2, li_3, li_4, li_5, li_6, li_7, li_8, li_9, li_10, li_12, li_14, li_15, li_16, li_18, li_19, li_20, li_22, li_23, li_24, li_26, li_29, li_30, li_31, li_32, li_36, li_38, li_48, li_50, li_57, li_58, li_59, li_60, li_63, li_97, li_99, li_120, li_122, li_144, li_168, li_194, li_240, li_255, li_284, li_299, li_603, li_999, li_1200, li_1440, li_4095, li_4096, li_6030, li_16384, li_20160, mp, p_cP_gi hS hP, p_cP_gS hS hP, y.nP, k_has, b2i_0, nI_ltI, shl1_n, fa_or, p_eed_p hS hP, k_mostE hS hP y hD he wl, nI_leI]
    rw [if_pos hlt]
    refine aJ_gen (R := fun o => o = some (nI (fcr (tyE T e) (Kc T) (T 426 e) B 12), h1)) (fun k61 hk61 => ?_)
    have K : ∀ v, v = fcr (tyE T e) (Kc T) (T 426 e) B (i + 1) → k61 (nI v) (nI (sz v)) h1 = some (nI (fcr (tyE T e) (Kc T) (T 426 e) B 12), h1) := fun v hv => by
      rw [hk61]
      simp only [bO_v, bR_v, bX_l, bX_r, bC_l, bC_r, aLet_v, nI_add, pk_mul, dvI_n, rmI_n, iMax_n, iMin_n, zO_0, zO_1, li_0, li_1, li_2, li_3, li_4, li_5, li_6, li_7, li_8, li_9, li_10, li_12, li_14, li_15, li_16, li_18, li_19, li_20, li_22, li_23, li_24, li_26, li_29, li_30, li_31, li_32, li_36, li_38, li_48, li_50, li_57, li_58, li_59, li_60, li_63, li_97, li_99, li_120, li_122, li_144, li_168, li_194, li_240, li_255, li_284, li_299, li_603, li_999, li_1200, li_1440, li_4095, li_4096, li_6030, li_16384, li_20160]
      exact ih _ _ _ _ _ (by omega) ⟨rfl, i + 1, hlt, rfl, rfl, by rw [hv], by rw [hv]⟩
    cases c1 : B.testBit i
    · rw [if_pos rfl]
      exact K _ (by rw [fcr, c1]; rfl)
    · rw [if_neg (by decide)]
      by_cases c2 : rk (tyE T e) (Kc T) (T 426 e) (fcr (tyE T e) (Kc T) (T 426 e) B i ||| 2 ^ i) ≤ sz (fcr (tyE T e) (Kc T) (T 426 e) B i)
      · rw [if_pos c2]
        exact K _ (by rw [fcr, c1, decide_eq_false (by omega)]; rfl)
      · rw [if_neg c2, ← e1]
        exact K _ (by rw [fcr, c1, decide_eq_true (by omega)]; rfl)
  · obtain rfl : i = T 412 8 := by omega
    simp (maxSteps := 3000000) (disch := first | assumption | omega) only [m_X4_firstCrew_L8, bO_v, bR_v, bX_l, bX_r, bC_l, bC_r, aLet_v, nI_add, pk_mul, dvI_n, rmI_n, iMax_n, iMin_n, zO_0, zO_1, li_0, li_1, li_2, li_3, li_4, li_5, li_6, li_7, li_8, li_9, li_10, li_12, li_14, li_15, li_16, li_18, li_19, li_20, li_22, li_23, li_24, li_26, li_29, li_30, li_31, li_32, li_36, li_38, li_48, li_50, li_57, li_58, li_59, li_60, li_63, li_97, li_99, li_120, li_122, li_144, li_168, li_194, li_240, li_255, li_284, li_299, li_603, li_999, li_1200, li_1440, li_4095, li_4096, li_6030, li_16384, li_20160, mp, p_cP_gi hS hP, y.nP, nI_ltI]
    rw [if_neg hlt, fcr_stop hB d0]
end
