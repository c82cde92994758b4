/-! a call: the reference's engines, and those who follow -/
section
variable {h : aH} {T : Nat → Nat → Nat} {S R : Nat → Nat}
theorem r_restGo (hS : Sh h) (z : RefR h T) (hD : PlD T) {g : aH} (x : RW h g R) (hR : RwD T R) {k c : Nat} (hk : k < T 412 11) (e63 : h_iv h 412 63 = nI (com T S k)) (e0 : R 0 = S 0) (ht : S 0 ≤ 20160) (hp : ∀ p, p < T 412 8 → R (38 + p) ≤ 1000000) (hc9 : c < 1000000) {k582 : Int32 → aH → Option (Int32 × aH)} {Z : Option (Int32 × aH) → Prop}
    (hk9 : ∀ g2, RW h g2 (sdR T (S 0) (voF T S) (fun p => (plF T S k (T 433 k)).testBit p) (T 412 8) R) → Z (k582 (nI (c + sdK T (S 0) (voF T S) (fun p => (plF T S k (T 433 k)).testBit p) (T 412 8))) g2)) : Z (aL2 (m_X12_call_L497 412 (nI (gnR T S k (T 433 k))) k582) FU (nI c) (nI 0) g) := by
  have d0 := hD.nP
  have gl := gn_lt (S := S) hD hk (Nat.le_refl _)
  have cl : com T S k < 4096 := two_pow_lt d0 (mk_lt _)
  have hf : ∀ p, p < T 412 8 → (plF T S k (T 433 k)).testBit p = true → voF T S p ≤ S 0 + 1389 := fun p hp9 _ => voF_le hD hp9
  refine aL2_run (fun m s1 s2 g2 => ∃ j, j ≤ T 412 8 ∧ m = T 412 8 - j ∧ s2 = nI j ∧ s1 = nI (c + sdK T (S 0) (voF T S) (fun p => (plF T S k (T 433 k)).testBit p) j) ∧ RW h g2 (sdR T (S 0) (voF T S) (fun p => (plF T S k (T 433 k)).testBit p) j R)) ⟨0, Nat.zero_le _, rfl, rfl, rfl, by rw [sdR_0]; exact x⟩ (by omega) ?_
  rintro rec m s1 s2 g2 ⟨j, hj, rfl, rfl, rfl, x2⟩ ih
  have S2 := x2.1.sh hS
  have g8 : h_iv g2 412 8 = nI (T 412 8) := by rw [x2.1.iv (by decide)]; exact z.f8
  by_cases hlt : j < T 412 8
  · have g63 : h_iv g2 412 63 = nI (com T S k) := by rw [x2.1.iv (by decide)]; exact e63
    have bq : (((nI (com T S k) >>> (nI j &&& nI 31)) &&& nI 1 = nI 0) ↔ (com T S k).testBit j = false) := bit_n (by omega) (by omega)
    have bq2 : (((nI (gnR T S k (T 433 k)) >>> (nI j &&& nI 31)) &&& nI 1 = nI 0) ↔ (gnR T S k (T 433 k)).testBit j = false) := bit_n (by omega) (by omega)
    have pb := gn_bit (S := S) hD (k := k) (p := j) (i := T 433 k)
    simp (maxSteps := 3000000) (disch := first | assumption | omega) only [m_X12_call_L497, bO_v, bR_v, bX_l, bX_r, bC_l, bC_r, aLet_v, nI_add, pk_mul, dvI_n, rmI_n, iMax_n, iMin_n, zO_0, zO_1, li_0, li_1, li_2, li_3, li_4, li_5, li_6, li_7, li_8, li_9, li_10, li_12, li_14, li_15, li_16, li_18, li_19, li_20, li_22, li_23, li_24, li_26, li_29, li_30, li_31, li_32, li_36, li_38, li_48, li_50, li_57, li_58, li_59, li_60, li_63, li_97, li_99, li_120, li_122, li_144, li_168, li_194, li_240, li_255, li_284, li_299, li_603, li_999, li_1200, li_1440, li_4095, li_4096, li_6030, li_16384, li_20160, zl0, zl1, zl2, zl3, zl4, ze01, ze02, ze03, ze04, ze10, ze12, ze13, ze14, ze20, ze21, ze23, ze24, ze30, ze31, ze32, ze34, ze40, ze41, ze42, ze43, zt0, zt1, zt2, zt3, zt4, zq0, zq1, zq2, zq3, zq4, it_t, it_f, Bool.true_eq_false, Bool.false_eq_true, na5, na4, na1441, na2, na10, sx_IOIA, sx_IOIS, sx_IONS, sx_IAIO, sx_IAIS, sx_IANS, sx_ISIO, sx_ISIA, sx_ISNS, sx_NSIO, sx_NSIA, sx_NSIS, r_cM_gi S2, g8, nI_ltI, g63, bq, bq2]
    rw [if_pos hlt]
    refine aJ_gen (fun k533 hk533 => ?_)
    refine aJ_gen (fun k532 hk532 => ?_)
    have no : (plF T S k (T 433 k)).testBit j = false → Z (k533 (nI 0) g2) := fun cb => by
      rw [hk533]
      refine aJ_gen (fun k573 hk573 => ?_)
      rw [if_pos rfl, hk573]
      simp (maxSteps := 3000000) (disch := first | assumption | omega) only [bO_v, bR_v, bX_l, bX_r, bC_l, bC_r, aLet_v, nI_add, pk_mul, dvI_n, rmI_n, iMax_n, iMin_n, zO_0, zO_1, li_0, li_1, li_2, li_3, li_4, li_5, li_6, li_7, li_8, li_9, li_10, li_12, li_14, li_15, li_16, li_18, li_19, li_20, li_22, li_23, li_24, li_26, li_29, li_30, li_31, li_32, li_36, li_38, li_48, li_50, li_57, li_58, li_59, li_60, li_63, li_97, li_99, li_120, li_122, li_144, li_168, li_194, li_240, li_255, li_284, li_299, li_603, li_999, li_1200, li_1440, li_4095, li_4096, li_6030, li_16384, li_20160, zl0, zl1, zl2, zl3, zl4, ze01, ze02, ze03, ze04, ze10, ze12, ze13, ze14, ze20, ze21, ze23, ze24, ze30, ze31, ze32, ze34, ze40, ze41, ze42, ze43, zt0, zt1, zt2, zt3, zt4, zq0, zq1, zq2, zq3, zq4, it_t, it_f, Bool.true_eq_false, Bool.false_eq_true, na5, na4, na1441, na2, na10, sx_IOIA, sx_IOIS, sx_IONS, sx_IAIO, sx_IAIS, sx_IANS, sx_ISIO, sx_ISIA, sx_ISNS, sx_NSIO, sx_NSIA, sx_NSIS]
      exact ih _ _ _ _ (by omega) ⟨j + 1, hlt, rfl, rfl, by rw [sdK, cb]; rfl, by rw [sdR_no cb (by omega)]; exact x2⟩
    cases ca : (com T S k).testBit j
    · rw [if_pos rfl, hk532]
      exact no (by rw [pb, ca]; rfl)
    · rw [if_neg (by decide)]
      cases cg : (gnR T S k (T 433 k)).testBit j
      · rw [if_pos rfl]
        have cb : (plF T S k (T 433 k)).testBit j = true := by rw [pb, ca, cg]; rfl
        have v9 := voF_le (S := S) hD hlt
        have R2 : RwD T (sdR T (S 0) (voF T S) (fun p => (plF T S k (T 433 k)).testBit p) j R) := sdR_R hD hR hj ht (fun p q1 q2 => hf p (by omega) q2) (fun p hp9 => by have := hp p hp9; omega)
        have e2 : sdR T (S 0) (voF T S) (fun p => (plF T S k (T 433 k)).testBit p) j R 0 = S 0 := by rw [sdR_o (by omega) (by omega)]; exact e0
        have b2 : sdR T (S 0) (voF T S) (fun p => (plF T S k (T 433 k)).testBit p) j R (38 + j) ≤ R (38 + j) + 2778 := sdR_pay (fun p q1 q2 => hf p (by omega) q2) (by omega) (by omega)
        have := hp j hlt
        have v1 : S 0 ≤ voF T S j := by unfold voF; omega
        obtain ⟨r, g3, e3, er, x3⟩ := r_sends hS z hD x2 (p := j) (u := voF T S j) (t := S 0) (by omega) e2 v1 (by omega) (by omega)
        rw [er] at e3
        have z2 := x2.ref z R2.all
        have ra := r_arrivalOf (T := setW T (sdR T (S 0) (voF T S) (fun p => (plF T S k (T 433 k)).testBit p) j R)) S2 z2 hD (by rw [setW_w, e2]; omega) (p := j) (by omega)
        rw [setW_w] at ra
        have ra2 : m_X12_arrivalOf 412 (nI j) g2 = some (nI (arr T S j), g2) := by
          rw [← arr_ext (T := T) (show sdR T (S 0) (voF T S) (fun p => (plF T S k (T 433 k)).testBit p) j R 0 = S 0 from e2)]
          exact ra
        have w0 := x2.2 0
        rw [e2] at w0
        have e420 : h_iv g2 420 j = nI (T 420 j) := by rw [x2.1.iv (by decide)]; exact z.c420 j
        have n10 : ¬ nI 1 = nI 0 := by decide
        have sm : S 0 + arr T S j + T 420 j = voF T S j := rfl
        rw [hk533]
        refine aJ_gen (fun k573 hk573 => ?_)
        rw [if_neg n10]
        simp (maxSteps := 3000000) (disch := first | assumption | omega) only [bO_v, bR_v, bX_l, bX_r, bC_l, bC_r, aLet_v, nI_add, pk_mul, dvI_n, rmI_n, iMax_n, iMin_n, zO_0, zO_1, li_0, li_1, li_2, li_3, li_4, li_5, li_6, li_7, li_8, li_9, li_10, li_12, li_14, li_15, li_16, li_18, li_19, li_20, li_22, li_23, li_24, li_26, li_29, li_30, li_31, li_32, li_36, li_38, li_48, li_50, li_57, li_58, li_59, li_60, li_63, li_97, li_99, li_120, li_122, li_144, li_168, li_194, li_240, li_255, li_284, li_299, li_603, li_999, li_1200, li_1440, li_4095, li_4096, li_6030, li_16384, li_20160, zl0, zl1, zl2, zl3, zl4, ze01, ze02, ze03, ze04, ze10, ze12, ze13, ze14, ze20, ze21, ze23, ze24, ze30, ze31, ze32, ze34, ze40, ze41, ze42, ze43, zt0, zt1, zt2, zt3, zt4, zq0, zq1, zq2, zq3, zq4, it_t, it_f, Bool.true_eq_false, Bool.false_eq_true, na5, na4, na1441, na2, na10, sx_IOIA, sx_IOIS, sx_IONS, sx_IAIO, sx_IAIS, sx_IANS, sx_ISIO, sx_ISIA, sx_ISNS, sx_NSIO, sx_NSIA, sx_NSIS, r_p413 S2, r_c413_al S2, w0, r_cM_gS S2, ra2, r_p420 S2, r_c420_al S2, e420, sm, e3, hk573]
        exact ih _ _ _ _ (by omega) ⟨j + 1, hlt, rfl, rfl, by rw [sdK, if_pos cb, Nat.add_assoc], by rw [sdR_yes cb (by omega)]; exact x3⟩
      · rw [if_neg (by decide), hk532]
        exact no (by rw [pb, ca, cg]; rfl)
  · obtain rfl : j = T 412 8 := by omega
    simp (maxSteps := 3000000) (disch := first | assumption | omega) only [m_X12_call_L497, bO_v, bR_v, bX_l, bX_r, bC_l, bC_r, aLet_v, nI_add, pk_mul, dvI_n, rmI_n, iMax_n, iMin_n, zO_0, zO_1, li_0, li_1, li_2, li_3, li_4, li_5, li_6, li_7, li_8, li_9, li_10, li_12, li_14, li_15, li_16, li_18, li_19, li_20, li_22, li_23, li_24, li_26, li_29, li_30, li_31, li_32, li_36, li_38, li_48, li_50, li_57, li_58, li_59, li_60, li_63, li_97, li_99, li_120, li_122, li_144, li_168, li_194, li_240, li_255, li_284, li_299, li_603, li_999, li_1200, li_1440, li_4095, li_4096, li_6030, li_16384, li_20160, zl0, zl1, zl2, zl3, zl4, ze01, ze02, ze03, ze04, ze10, ze12, ze13, ze14, ze20, ze21, ze23, ze24, ze30, ze31, ze32, ze34, ze40, ze41, ze42, ze43, zt0, zt1, zt2, zt3, zt4, zq0, zq1, zq2, zq3, zq4, it_t, it_f, Bool.true_eq_false, Bool.false_eq_true, na5, na4, na1441, na2, na10, sx_IOIA, sx_IOIS, sx_IONS, sx_IAIO, sx_IAIS, sx_IANS, sx_ISIO, sx_ISIA, sx_ISNS, sx_NSIO, sx_NSIA, sx_NSIS, r_cM_gi S2, g8, nI_ltI]
    rw [if_neg hlt]
    exact hk9 g2 x2
theorem r_engL269 (hS : Sh h) (z : RefR h T) (hD : PlD T) (hR : RwD T S) {k : Nat} {g : aH} (x : RW h g (caE T S k 0)) (hk : k < T 412 11) (pp : pP T S k h (T 433 k)) (h16 : S 1 < 16) (ht : S 0 ≤ 20160) (hp : ∀ p, p < T 412 8 → S (38 + p) ≤ 500000) {V : Nat} (hV : V ≤ 1000) {k494 : Int32 → Int32 → aH → Option (Int32 × aH)} {Z : Option (Int32 × aH) → Prop}
    (hk9 : ∀ g2, RW h g2 (caE T S k (T 433 k)) → Z (k494 (nI (V + enC T S k (T 433 k))) (nI (gnR T S k (T 433 k))) g2)) : Z (aL4 (m_X12_call_L269 412 (nI k) k494) FU (nI V) (nI 0) (nI (299 + 19 * S 1 + 4)) (nI 0) g) := by
  have d0 := hD.nP
  have d2 := hD.nE
  have d3 := hD.ken k hk
  have d4 := hD.nK
  refine aL4_run (fun m s1 s2 s3 s4 g2 => ∃ i, i ≤ T 433 k ∧ m = T 433 k - i ∧ s4 = nI i ∧ s3 = nI (299 + 19 * S 1 + 4 + 3 * plV T S k i) ∧ s2 = nI (gnR T S k i) ∧ s1 = nI (V + enC T S k i) ∧ RW h g2 (caE T S k i)) ⟨0, Nat.zero_le _, rfl, rfl, rfl, rfl, rfl, x⟩ (by omega) ?_
  rintro rec m s1 s2 s3 s4 g2 ⟨i, hi, rfl, rfl, rfl, rfl, rfl, x4⟩ ih
  have S4 := x4.1.sh hS
  have e433 : h_iv g2 433 k = nI (T 433 k) := by rw [x4.1.iv (by decide)]; exact z.c433 k
  obtain ⟨q1, q2, q3, q4, q5⟩ := caE_inv hD hR hk ht hp hi
  obtain ⟨-, rl⟩ := ca_0 hD hR hk
  have c0 : caE T S k i 0 = S 0 := by rw [q2 _ (by omega)]; exact rl _ (by omega)
  have c1 : caE T S k i 1 = S 1 := by rw [q2 _ (by omega)]; exact rl _ (by omega)
  have cp : ∀ p, p < T 412 8 → caE T S k i (38 + p) ≤ 900000 := fun p hp9 => by
    have := q3 p hp9
    have := hp p hp9
    omega
  have vl := plV_le T S k i
  by_cases hlt : i < T 433 k
  · obtain ⟨w1, -, -, w4⟩ := pp i hlt
    change h_iv h 456 i = nI (plJ T S k i) at w1
    change h_iv h 459 i = nI (plX T S k i) at w4
    have e456 : h_iv g2 456 i = nI (plJ T S k i) := by rw [x4.1.iv (by decide)]; exact w1
    have lt2 := two_pow_lt d0 (plJ_lt (S := S) hD hk hlt)
    simp (maxSteps := 3000000) (disch := first | assumption | omega) only [m_X12_call_L269, bO_v, bR_v, bX_l, bX_r, bC_l, bC_r, aLet_v, nI_add, pk_mul, dvI_n, rmI_n, iMax_n, iMin_n, zO_0, zO_1, li_0, li_1, li_2, li_3, li_4, li_5, li_6, li_7, li_8, li_9, li_10, li_12, li_14, li_15, li_16, li_18, li_19, li_20, li_22, li_23, li_24, li_26, li_29, li_30, li_31, li_32, li_36, li_38, li_48, li_50, li_57, li_58, li_59, li_60, li_63, li_97, li_99, li_120, li_122, li_144, li_168, li_194, li_240, li_255, li_284, li_299, li_603, li_999, li_1200, li_1440, li_4095, li_4096, li_6030, li_16384, li_20160, zl0, zl1, zl2, zl3, zl4, ze01, ze02, ze03, ze04, ze10, ze12, ze13, ze14, ze20, ze21, ze23, ze24, ze30, ze31, ze32, ze34, ze40, ze41, ze42, ze43, zt0, zt1, zt2, zt3, zt4, zq0, zq1, zq2, zq3, zq4, it_t, it_f, Bool.true_eq_false, Bool.false_eq_true, na5, na4, na1441, na2, na10, sx_IOIA, sx_IOIS, sx_IONS, sx_IAIO, sx_IAIS, sx_IANS, sx_ISIO, sx_ISIA, sx_ISNS, sx_NSIO, sx_NSIA, sx_NSIS, r_p433 S4, r_c433_al S4, e433, nI_ltI, r_p456 S4, r_c456_al S4, e456, nI_eq]
    rw [if_pos hlt]
    refine aJ_gen (fun k488 hk488 => ?_)
    by_cases cz : plJ T S k i = 0
    · have cv : plV T S k (i + 1) = plV T S k i := by
        show plV T S k i + (if plJ T S k i = 0 then 0 else 1) = _
        rw [if_pos cz, Nat.add_zero]
      have cE : caE T S k (i + 1) = caE T S k i := by
        show (if plJ T S k i = 0 then caE T S k i else _) = _
        rw [if_pos cz]
      have cC : enC T S k (i + 1) = enC T S k i := by rw [enC, if_pos cz]
      have cG : gnR T S k (i + 1) = gnR T S k i := by rw [gnR, if_pos cz]
      rw [if_pos cz, hk488]
      simp (maxSteps := 3000000) (disch := first | assumption | omega) only [bO_v, bR_v, bX_l, bX_r, bC_l, bC_r, aLet_v, nI_add, pk_mul, dvI_n, rmI_n, iMax_n, iMin_n, zO_0, zO_1, li_0, li_1, li_2, li_3, li_4, li_5, li_6, li_7, li_8, li_9, li_10, li_12, li_14, li_15, li_16, li_18, li_19, li_20, li_22, li_23, li_24, li_26, li_29, li_30, li_31, li_32, li_36, li_38, li_48, li_50, li_57, li_58, li_59, li_60, li_63, li_97, li_99, li_120, li_122, li_144, li_168, li_194, li_240, li_255, li_284, li_299, li_603, li_999, li_1200, li_1440, li_4095, li_4096, li_6030, li_16384, li_20160, zl0, zl1, zl2, zl3, zl4, ze01, ze02, ze03, ze04, ze10, ze12, ze13, ze14, ze20, ze21, ze23, ze24, ze30, ze31, ze32, ze34, ze40, ze41, ze42, ze43, zt0, zt1, zt2, zt3, zt4, zq0, zq1, zq2, zq3, zq4, it_t, it_f, Bool.true_eq_false, Bool.false_eq_true, na5, na4, na1441, na2, na10, sx_IOIA, sx_IOIS, sx_IONS, sx_IAIO, sx_IAIS, sx_IANS, sx_ISIO, sx_ISIA, sx_ISNS, sx_NSIO, sx_NSIA, sx_NSIS]
      exact ih _ _ _ _ _ _ (by omega) ⟨i + 1, hlt, rfl, rfl, by rw [cv], by rw [cG], by rw [cC], by rw [cE]; exact x4⟩
    · have cv : plV T S k (i + 1) = plV T S k i + 1 := by
        show plV T S k i + (if plJ T S k i = 0 then 0 else 1) = _
        rw [if_neg cz]
      have cE : caE T S k (i + 1) = sdR T (S 0) (fun _ => enU T S k i) (fun p => (plJ T S k i).testBit p) (T 412 8) (egR T S k i (caE T S k i)) := by
        show (if plJ T S k i = 0 then caE T S k i else _) = _
        rw [if_neg cz]
        rfl
      have cC : enC T S k (i + 1) = enC T S k i + sdK T (S 0) (fun _ => enU T S k i) (fun p => (plJ T S k i).testBit p) (T 412 8) := by rw [enC, if_neg cz]
      have cG : gnR T S k (i + 1) = gnR T S k i ||| plJ T S k i := by rw [gnR, if_neg cz]
      have he := hD.ke k hk i hlt
      change enK T k i < T 412 10 at he
      have e434 : h_iv g2 434 (5 * k + i) = nI (enK T k i) := by rw [x4.1.iv (by decide)]; exact z.c434 _
      have e459 : h_iv g2 459 i = nI (plX T S k i) := by rw [x4.1.iv (by decide)]; exact w4
      have e425 : h_iv g2 425 (enK T k i) = nI (T 425 (enK T k i)) := by rw [x4.1.iv (by decide)]; exact z.c425 _
      have e428 : h_iv g2 428 k = nI (T 428 k) := by rw [x4.1.iv (by decide)]; exact z.c428 _
      have w0 := x4.2 0
      rw [c0] at w0
      obtain ⟨u1, u2⟩ := enU_le (S := S) hD hk hlt
      have l1 := plX_le (S := S) hD (k := k) (i := i)
      have su : S 0 + plX T S k i + 2 * T 425 (enK T k i) + T 428 k = enU T S k i := rfl
      rw [if_neg cz]
      have h42 : ∀ {g' R'}, RW h g' R' → h_iv g' 456 i = nI (plJ T S k i) := fun y => by rw [y.1.iv (by decide)]; exact w1
      have h45 : ∀ {g' R'}, RW h g' R' → h_iv g' 459 i = nI (plX T S k i) := fun y => by rw [y.1.iv (by decide)]; exact w4
      simp (maxSteps := 3000000) (disch := first | assumption | omega) only [bO_v, bR_v, bX_l, bX_r, bC_l, bC_r, aLet_v, nI_add, pk_mul, dvI_n, rmI_n, iMax_n, iMin_n, zO_0, zO_1, li_0, li_1, li_2, li_3, li_4, li_5, li_6, li_7, li_8, li_9, li_10, li_12, li_14, li_15, li_16, li_18, li_19, li_20, li_22, li_23, li_24, li_26, li_29, li_30, li_31, li_32, li_36, li_38, li_48, li_50, li_57, li_58, li_59, li_60, li_63, li_97, li_99, li_120, li_122, li_144, li_168, li_194, li_240, li_255, li_284, li_299, li_603, li_999, li_1200, li_1440, li_4095, li_4096, li_6030, li_16384, li_20160, zl0, zl1, zl2, zl3, zl4, ze01, ze02, ze03, ze04, ze10, ze12, ze13, ze14, ze20, ze21, ze23, ze24, ze30, ze31, ze32, ze34, ze40, ze41, ze42, ze43, zt0, zt1, zt2, zt3, zt4, zq0, zq1, zq2, zq3, zq4, it_t, it_f, Bool.true_eq_false, Bool.false_eq_true, na5, na4, na1441, na2, na10, sx_IOIA, sx_IOIS, sx_IONS, sx_IAIO, sx_IAIS, sx_IANS, sx_ISIO, sx_ISIA, sx_ISNS, sx_NSIO, sx_NSIA, sx_NSIS, r_p434 S4, r_c434_al S4, e434, r_p413 S4, r_c413_al S4, w0, r_p459 S4, r_c459_al S4, e459, r_p425 S4, r_c425_al S4, e425, r_p428 S4, r_c428_al S4, e428, su, r_c413_as S4]
      have x5 := x4.pt (k := 299 + 19 * S 1 + 4 + 3 * plV T S k i) (v := enK T k i)
      have S5 := x5.1.sh hS
      have w05 := x5.2 0
      rw [pt_n (by omega), c0] at w05
      simp (maxSteps := 3000000) (disch := first | assumption | omega) only [bO_v, bR_v, bX_l, bX_r, bC_l, bC_r, aLet_v, nI_add, pk_mul, dvI_n, rmI_n, iMax_n, iMin_n, zO_0, zO_1, li_0, li_1, li_2, li_3, li_4, li_5, li_6, li_7, li_8, li_9, li_10, li_12, li_14, li_15, li_16, li_18, li_19, li_20, li_22, li_23, li_24, li_26, li_29, li_30, li_31, li_32, li_36, li_38, li_48, li_50, li_57, li_58, li_59, li_60, li_63, li_97, li_99, li_120, li_122, li_144, li_168, li_194, li_240, li_255, li_284, li_299, li_603, li_999, li_1200, li_1440, li_4095, li_4096, li_6030, li_16384, li_20160, zl0, zl1, zl2, zl3, zl4, ze01, ze02, ze03, ze04, ze10, ze12, ze13, ze14, ze20, ze21, ze23, ze24, ze30, ze31, ze32, ze34, ze40, ze41, ze42, ze43, zt0, zt1, zt2, zt3, zt4, zq0, zq1, zq2, zq3, zq4, it_t, it_f, Bool.true_eq_false, Bool.false_eq_true, na5, na4, na1441, na2, na10, sx_IOIA, sx_IOIS, sx_IONS, sx_IAIO, sx_IAIS, sx_IANS, sx_ISIO, sx_ISIA, sx_ISNS, sx_NSIO, sx_NSIA, sx_NSIS, r_p413 S5, r_c413_al S5, w05, r_p459 S5, r_c459_al S5, h45 x5, r_c413_as S5]
      have x6 := x5.pt (k := 299 + 19 * S 1 + 4 + 3 * plV T S k i + 1) (v := S 0 + plX T S k i)
      have S6 := x6.1.sh hS
      simp (maxSteps := 3000000) (disch := first | assumption | omega) only [bO_v, bR_v, bX_l, bX_r, bC_l, bC_r, aLet_v, nI_add, pk_mul, dvI_n, rmI_n, iMax_n, iMin_n, zO_0, zO_1, li_0, li_1, li_2, li_3, li_4, li_5, li_6, li_7, li_8, li_9, li_10, li_12, li_14, li_15, li_16, li_18, li_19, li_20, li_22, li_23, li_24, li_26, li_29, li_30, li_31, li_32, li_36, li_38, li_48, li_50, li_57, li_58, li_59, li_60, li_63, li_97, li_99, li_120, li_122, li_144, li_168, li_194, li_240, li_255, li_284, li_299, li_603, li_999, li_1200, li_1440, li_4095, li_4096, li_6030, li_16384, li_20160, zl0, zl1, zl2, zl3, zl4, ze01, ze02, ze03, ze04, ze10, ze12, ze13, ze14, ze20, ze21, ze23, ze24, ze30, ze31, ze32, ze34, ze40, ze41, ze42, ze43, zt0, zt1, zt2, zt3, zt4, zq0, zq1, zq2, zq3, zq4, it_t, it_f, Bool.true_eq_false, Bool.false_eq_true, na5, na4, na1441, na2, na10, sx_IOIA, sx_IOIS, sx_IONS, sx_IAIO, sx_IAIS, sx_IANS, sx_ISIO, sx_ISIA, sx_ISNS, sx_NSIO, sx_NSIA, sx_NSIS, r_p413 S6, r_p456 S6, r_c456_al S6, h42 x6, r_c413_as S6]
      have x7 := x6.pt (k := 299 + 19 * S 1 + 4 + 3 * plV T S k i + 2) (v := plJ T S k i)
      have S7 := x7.1.sh hS
      simp (maxSteps := 3000000) (disch := first | assumption | omega) only [bO_v, bR_v, bX_l, bX_r, bC_l, bC_r, aLet_v, nI_add, pk_mul, dvI_n, rmI_n, iMax_n, iMin_n, zO_0, zO_1, li_0, li_1, li_2, li_3, li_4, li_5, li_6, li_7, li_8, li_9, li_10, li_12, li_14, li_15, li_16, li_18, li_19, li_20, li_22, li_23, li_24, li_26, li_29, li_30, li_31, li_32, li_36, li_38, li_48, li_50, li_57, li_58, li_59, li_60, li_63, li_97, li_99, li_120, li_122, li_144, li_168, li_194, li_240, li_255, li_284, li_299, li_603, li_999, li_1200, li_1440, li_4095, li_4096, li_6030, li_16384, li_20160, zl0, zl1, zl2, zl3, zl4, ze01, ze02, ze03, ze04, ze10, ze12, ze13, ze14, ze20, ze21, ze23, ze24, ze30, ze31, ze32, ze34, ze40, ze41, ze42, ze43, zt0, zt1, zt2, zt3, zt4, zq0, zq1, zq2, zq3, zq4, it_t, it_f, Bool.true_eq_false, Bool.false_eq_true, na5, na4, na1441, na2, na10, sx_IOIA, sx_IOIS, sx_IONS, sx_IAIO, sx_IAIS, sx_IANS, sx_ISIO, sx_ISIA, sx_ISNS, sx_NSIO, sx_NSIA, sx_NSIS, r_p456 S7, r_c456_al S7, h42 x7, fa_or, r_p413 S7, r_c413_as S7]
      have x8 := x7.pt (k := 284 + 3 * enK T k i + 0) (v := enU T S k i)
      have S8 := x8.1.sh hS
      simp (maxSteps := 3000000) (disch := first | assumption | omega) only [bO_v, bR_v, bX_l, bX_r, bC_l, bC_r, aLet_v, nI_add, pk_mul, dvI_n, rmI_n, iMax_n, iMin_n, zO_0, zO_1, li_0, li_1, li_2, li_3, li_4, li_5, li_6, li_7, li_8, li_9, li_10, li_12, li_14, li_15, li_16, li_18, li_19, li_20, li_22, li_23, li_24, li_26, li_29, li_30, li_31, li_32, li_36, li_38, li_48, li_50, li_57, li_58, li_59, li_60, li_63, li_97, li_99, li_120, li_122, li_144, li_168, li_194, li_240, li_255, li_284, li_299, li_603, li_999, li_1200, li_1440, li_4095, li_4096, li_6030, li_16384, li_20160, zl0, zl1, zl2, zl3, zl4, ze01, ze02, ze03, ze04, ze10, ze12, ze13, ze14, ze20, ze21, ze23, ze24, ze30, ze31, ze32, ze34, ze40, ze41, ze42, ze43, zt0, zt1, zt2, zt3, zt4, zq0, zq1, zq2, zq3, zq4, it_t, it_f, Bool.true_eq_false, Bool.false_eq_true, na5, na4, na1441, na2, na10, sx_IOIA, sx_IOIS, sx_IONS, sx_IAIO, sx_IAIS, sx_IANS, sx_ISIO, sx_ISIA, sx_ISNS, sx_NSIO, sx_NSIA, sx_NSIS, r_p413 S8, r_p456 S8, r_c456_al S8, h42 x8, r_c413_as S8]
      have x9 := x8.pt (k := 284 + 3 * enK T k i + 2) (v := plJ T S k i)
      change RW h _ (egR T S k i (caE T S k i)) at x9
      have R9 := egR_R hD q1 hk hlt c0 c1 ht cz
      refine r_crewGo hS z hD x9 R9 (show i < 5 by omega) w1 lt2 (by rw [egR_o (by omega) (by omega)]; exact c0) ht u1 (by omega) (fun p hp9 => by rw [egR_o (by omega) (by omega)]; have := cp p hp9; omega) (by omega) (fun g3 x3 => ?_)
      rw [hk488]
      simp (maxSteps := 3000000) (disch := first | assumption | omega) only [bO_v, bR_v, bX_l, bX_r, bC_l, bC_r, aLet_v, nI_add, pk_mul, dvI_n, rmI_n, iMax_n, iMin_n, zO_0, zO_1, li_0, li_1, li_2, li_3, li_4, li_5, li_6, li_7, li_8, li_9, li_10, li_12, li_14, li_15, li_16, li_18, li_19, li_20, li_22, li_23, li_24, li_26, li_29, li_30, li_31, li_32, li_36, li_38, li_48, li_50, li_57, li_58, li_59, li_60, li_63, li_97, li_99, li_120, li_122, li_144, li_168, li_194, li_240, li_255, li_284, li_299, li_603, li_999, li_1200, li_1440, li_4095, li_4096, li_6030, li_16384, li_20160, zl0, zl1, zl2, zl3, zl4, ze01, ze02, ze03, ze04, ze10, ze12, ze13, ze14, ze20, ze21, ze23, ze24, ze30, ze31, ze32, ze34, ze40, ze41, ze42, ze43, zt0, zt1, zt2, zt3, zt4, zq0, zq1, zq2, zq3, zq4, it_t, it_f, Bool.true_eq_false, Bool.false_eq_true, na5, na4, na1441, na2, na10, sx_IOIA, sx_IOIS, sx_IONS, sx_IAIO, sx_IAIS, sx_IANS, sx_ISIO, sx_ISIA, sx_ISNS, sx_NSIO, sx_NSIA, sx_NSIS]
      exact ih _ _ _ _ _ _ (by omega) ⟨i + 1, hlt, rfl, rfl, by rw [cv]; congr 1, by rw [cG], by rw [cC, Nat.add_assoc], by rw [cE]; exact x3⟩
  · obtain rfl : i = T 433 k := by omega
    simp (maxSteps := 3000000) (disch := first | assumption | omega) only [m_X12_call_L269, bO_v, bR_v, bX_l, bX_r, bC_l, bC_r, aLet_v, nI_add, pk_mul, dvI_n, rmI_n, iMax_n, iMin_n, zO_0, zO_1, li_0, li_1, li_2, li_3, li_4, li_5, li_6, li_7, li_8, li_9, li_10, li_12, li_14, li_15, li_16, li_18, li_19, li_20, li_22, li_23, li_24, li_26, li_29, li_30, li_31, li_32, li_36, li_38, li_48, li_50, li_57, li_58, li_59, li_60, li_63, li_97, li_99, li_120, li_122, li_144, li_168, li_194, li_240, li_255, li_284, li_299, li_603, li_999, li_1200, li_1440, li_4095, li_4096, li_6030, li_16384, li_20160, zl0, zl1, zl2, zl3, zl4, ze01, ze02, ze03, ze04, ze10, ze12, ze13, ze14, ze20, ze21, ze23, ze24, ze30, ze31, ze32, ze34, ze40, ze41, ze42, ze43, zt0, zt1, zt2, zt3, zt4, zq0, zq1, zq2, zq3, zq4, it_t, it_f, Bool.true_eq_false, Bool.false_eq_true, na5, na4, na1441, na2, na10, sx_IOIA, sx_IOIS, sx_IONS, sx_IAIO, sx_IAIS, sx_IANS, sx_ISIO, sx_ISIA, sx_ISNS, sx_NSIO, sx_NSIA, sx_NSIS, r_p433 S4, r_c433_al S4, e433, nI_ltI]
    rw [if_neg hlt]
    exact hk9 g2 x4
theorem r_zeroL226 (hS : Sh h) {g : aH} (x : RW h g R) {b : Nat} (hb : b ≤ 584) {k249 : aH → Option (Int32 × aH)} {Z : Option (Int32 × aH) → Prop}
    (hk9 : ∀ g2, RW h g2 (fun j => if b + 4 ≤ j ∧ j < b + 19 then 0 else R j) → Z (k249 g2)) : Z (aL1 (m_X12_call_L226 412 (nI b) k249) FU (nI 4) g) := by
  refine aL1_run (fun m s1 g2 => ∃ i, 4 ≤ i ∧ i ≤ 19 ∧ m = 19 - i ∧ s1 = nI i ∧ RW h g2 (fun j => if b + 4 ≤ j ∧ j < b + i then 0 else R j)) ⟨4, by omega, by omega, rfl, rfl, x.to (fun j => by rw [if_neg (by omega)])⟩ (by omega) ?_
  rintro rec m s1 g2 ⟨i, h4, hi, rfl, rfl, x2⟩ ih
  have S2 := x2.1.sh hS
  by_cases hlt : i < 19
  · simp (maxSteps := 3000000) (disch := first | assumption | omega) only [m_X12_call_L226, bO_v, bR_v, bX_l, bX_r, bC_l, bC_r, aLet_v, nI_add, pk_mul, dvI_n, rmI_n, iMax_n, iMin_n, zO_0, zO_1, li_0, li_1, li_2, li_3, li_4, li_5, li_6, li_7, li_8, li_9, li_10, li_12, li_14, li_15, li_16, li_18, li_19, li_20, li_22, li_23, li_24, li_26, li_29, li_30, li_31, li_32, li_36, li_38, li_48, li_50, li_57, li_58, li_59, li_60, li_63, li_97, li_99, li_120, li_122, li_144, li_168, li_194, li_240, li_255, li_284, li_299, li_603, li_999, li_1200, li_1440, li_4095, li_4096, li_6030, li_16384, li_20160, zl0, zl1, zl2, zl3, zl4, ze01, ze02, ze03, ze04, ze10, ze12, ze13, ze14, ze20, ze21, ze23, ze24, ze30, ze31, ze32, ze34, ze40, ze41, ze42, ze43, zt0, zt1, zt2, zt3, zt4, zq0, zq1, zq2, zq3, zq4, it_t, it_f, Bool.true_eq_false, Bool.false_eq_true, na5, na4, na1441, na2, na10, sx_IOIA, sx_IOIS, sx_IONS, sx_IAIO, sx_IAIS, sx_IANS, sx_ISIO, sx_ISIA, sx_ISNS, sx_NSIO, sx_NSIA, sx_NSIS, nI_ltI, r_p413 S2, r_c413_as S2]
    rw [if_pos hlt]
    refine ih _ _ _ (by omega) ⟨i + 1, by omega, by omega, rfl, rfl, (x2.pt (k := b + i) (v := 0)).to (fun j => ?_)⟩
    unfold pt
    by_cases c : j = b + i
    · rw [if_pos c, if_pos (by omega)]
    · rw [if_neg c]
      simp only [show (j < b + (i + 1)) = (j < b + i) from propext (by omega)]
  · obtain rfl : i = 19 := by omega
    simp (maxSteps := 3000000) (disch := first | assumption | omega) only [m_X12_call_L226, bO_v, bR_v, bX_l, bX_r, bC_l, bC_r, aLet_v, nI_add, pk_mul, dvI_n, rmI_n, iMax_n, iMin_n, zO_0, zO_1, li_0, li_1, li_2, li_3, li_4, li_5, li_6, li_7, li_8, li_9, li_10, li_12, li_14, li_15, li_16, li_18, li_19, li_20, li_22, li_23, li_24, li_26, li_29, li_30, li_31, li_32, li_36, li_38, li_48, li_50, li_57, li_58, li_59, li_60, li_63, li_97, li_99, li_120, li_122, li_144, li_168, li_194, li_240, li_255, li_284, li_299, li_603, li_999, li_1200, li_1440, li_4095, li_4096, li_6030, li_16384, li_20160, zl0, zl1, zl2, zl3, zl4, ze01, ze02, ze03, ze04, ze10, ze12, ze13, ze14, ze20, ze21, ze23, ze24, ze30, ze31, ze32, ze34, ze40, ze41, ze42, ze43, zt0, zt1, zt2, zt3, zt4, zq0, zq1, zq2, zq3, zq4, it_t, it_f, Bool.true_eq_false, Bool.false_eq_true, na5, na4, na1441, na2, na10, sx_IOIA, sx_IOIS, sx_IONS, sx_IAIO, sx_IAIS, sx_IANS, sx_ISIO, sx_ISIA, sx_ISNS, sx_NSIO, sx_NSIA, sx_NSIS, nI_ltI]
    rw [if_neg hlt]
    exact hk9 g2 x2
end
