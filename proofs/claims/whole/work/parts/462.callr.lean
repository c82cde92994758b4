/-! a call: what the reference does -/
section
variable {h : aH} {T : Nat → Nat → Nat} {S R : Nat → Nat}
theorem r_sends (hS : Sh h) (z : RefR h T) (hD : PlD T) {g : aH} (x : RW h g R) {p u t : Nat} (hp : p < 12) (e0 : R 0 = t) (h1 : t ≤ u) (hu : u < 100000) (hb : R (38 + p) < 2000000000) :
    OK (m_X12_sends 412 (nI p) (nI u) g) (fun r g1 => r = nI (pyF T t u) ∧ RW h g1 (pd T t R p u)) := by
  have Sg := x.1.sh hS
  have d1 := hD.b
  have d2 := hD.e
  have g40 : h_iv g 418 0 = nI (T 418 0) := by rw [x.1.iv (by decide)]; exact z.c418 0
  have g41 : h_iv g 418 1 = nI (T 418 1) := by rw [x.1.iv (by decide)]; exact z.c418 1
  have w0 := x.2 0
  rw [e0] at w0
  simp (maxSteps := 3000000) (disch := first | assumption | omega) only [m_X12_sends, bO_v, bR_v, bX_l, bX_r, bC_l, bC_r, aLet_v, nI_add, pk_mul, dvI_n, rmI_n, iMax_n, iMin_n, zO_0, zO_1, li_0, li_1, li_2, li_3, li_4, li_5, li_6, li_7, li_8, li_9, li_10, li_12, li_14, li_15, li_16, li_18, li_19, li_20, li_22, li_23, li_24, li_26, li_29, li_30, li_31, li_32, li_36, li_38, li_48, li_50, li_57, li_58, li_59, li_60, li_63, li_97, li_99, li_120, li_122, li_144, li_168, li_194, li_240, li_255, li_284, li_299, li_603, li_999, li_1200, li_1440, li_4095, li_4096, li_6030, li_16384, li_20160, zl0, zl1, zl2, zl3, zl4, ze01, ze02, ze03, ze04, ze10, ze12, ze13, ze14, ze20, ze21, ze23, ze24, ze30, ze31, ze32, ze34, ze40, ze41, ze42, ze43, zt0, zt1, zt2, zt3, zt4, zq0, zq1, zq2, zq3, zq4, it_t, it_f, Bool.true_eq_false, Bool.false_eq_true, na5, na4, na1441, na2, na10, sx_IOIA, sx_IOIS, sx_IONS, sx_IAIO, sx_IAIS, sx_IANS, sx_ISIO, sx_ISIA, sx_ISNS, sx_NSIO, sx_NSIA, sx_NSIS, r_p413 Sg, r_c413_al Sg, w0]
  refine aJ_gen (R := fun o => OK o _) (fun k39 hk39 => ?_)
  refine aL2_run (R := fun o => OK o _) (fun m s1 s2 g2 => ∃ i, t ≤ i ∧ i ≤ u ∧ m = u - i ∧ s2 = nI i ∧ s1 = nI ((i - t) + (nm (T 418 0) (T 418 1) i - nm (T 418 0) (T 418 1) t)) ∧ g2 = g) ⟨t, Nat.le_refl _, h1, rfl, rfl, by rw [Nat.sub_self, Nat.sub_self], rfl⟩ (by omega) ?_
  rintro rec m s1 s2 g2 ⟨i, hi1, hi2, rfl, rfl, rfl, rfl⟩ ih
  have mo := nm_mono' (T 418 0) (T 418 1) hi1
  by_cases hlt : i < u
  · have ni := r_isNight' Sg g40 g41 d1 d2 (show i < 1000000 by omega)
    simp (maxSteps := 3000000) (disch := first | assumption | omega) only [m_X12_sends_L10, bO_v, bR_v, bX_l, bX_r, bC_l, bC_r, aLet_v, nI_add, pk_mul, dvI_n, rmI_n, iMax_n, iMin_n, zO_0, zO_1, li_0, li_1, li_2, li_3, li_4, li_5, li_6, li_7, li_8, li_9, li_10, li_12, li_14, li_15, li_16, li_18, li_19, li_20, li_22, li_23, li_24, li_26, li_29, li_30, li_31, li_32, li_36, li_38, li_48, li_50, li_57, li_58, li_59, li_60, li_63, li_97, li_99, li_120, li_122, li_144, li_168, li_194, li_240, li_255, li_284, li_299, li_603, li_999, li_1200, li_1440, li_4095, li_4096, li_6030, li_16384, li_20160, zl0, zl1, zl2, zl3, zl4, ze01, ze02, ze03, ze04, ze10, ze12, ze13, ze14, ze20, ze21, ze23, ze24, ze30, ze31, ze32, ze34, ze40, ze41, ze42, ze43, zt0, zt1, zt2, zt3, zt4, zq0, zq1, zq2, zq3, zq4, it_t, it_f, Bool.true_eq_false, Bool.false_eq_true, na5, na4, na1441, na2, na10, sx_IOIA, sx_IOIS, sx_IONS, sx_IAIO, sx_IAIS, sx_IANS, sx_ISIO, sx_ISIA, sx_ISNS, sx_NSIO, sx_NSIA, sx_NSIS, r_cM_gS Sg, ni, nI_ltI, b2i_0]
    rw [if_pos hlt]
    have st : nm (T 418 0) (T 418 1) (i + 1) = nm (T 418 0) (T 418 1) i + (if isN (T 418 0) (T 418 1) i then 1 else 0) := rfl
    refine aJ_gen (R := fun o => OK o _) (fun k31 hk31 => ?_)
    cases cn : isN (T 418 0) (T 418 1) i
    · rw [cn, if_neg (by decide)] at st
      rw [if_pos rfl, hk31]
      simp (maxSteps := 3000000) (disch := first | assumption | omega) only [bO_v, bR_v, bX_l, bX_r, bC_l, bC_r, aLet_v, nI_add, pk_mul, dvI_n, rmI_n, iMax_n, iMin_n, zO_0, zO_1, li_0, li_1, li_2, li_3, li_4, li_5, li_6, li_7, li_8, li_9, li_10, li_12, li_14, li_15, li_16, li_18, li_19, li_20, li_22, li_23, li_24, li_26, li_29, li_30, li_31, li_32, li_36, li_38, li_48, li_50, li_57, li_58, li_59, li_60, li_63, li_97, li_99, li_120, li_122, li_144, li_168, li_194, li_240, li_255, li_284, li_299, li_603, li_999, li_1200, li_1440, li_4095, li_4096, li_6030, li_16384, li_20160, zl0, zl1, zl2, zl3, zl4, ze01, ze02, ze03, ze04, ze10, ze12, ze13, ze14, ze20, ze21, ze23, ze24, ze30, ze31, ze32, ze34, ze40, ze41, ze42, ze43, zt0, zt1, zt2, zt3, zt4, zq0, zq1, zq2, zq3, zq4, it_t, it_f, Bool.true_eq_false, Bool.false_eq_true, na5, na4, na1441, na2, na10, sx_IOIA, sx_IOIS, sx_IONS, sx_IAIO, sx_IAIS, sx_IANS, sx_ISIO, sx_ISIA, sx_ISNS, sx_NSIO, sx_NSIA, sx_NSIS]
      refine ih _ _ _ _ (by omega) ⟨i + 1, by omega, hlt, rfl, rfl, ?_, rfl⟩
      congr 1
      omega
    · rw [cn, if_pos rfl] at st
      rw [if_neg (by decide), hk31]
      simp (maxSteps := 3000000) (disch := first | assumption | omega) only [bO_v, bR_v, bX_l, bX_r, bC_l, bC_r, aLet_v, nI_add, pk_mul, dvI_n, rmI_n, iMax_n, iMin_n, zO_0, zO_1, li_0, li_1, li_2, li_3, li_4, li_5, li_6, li_7, li_8, li_9, li_10, li_12, li_14, li_15, li_16, li_18, li_19, li_20, li_22, li_23, li_24, li_26, li_29, li_30, li_31, li_32, li_36, li_38, li_48, li_50, li_57, li_58, li_59, li_60, li_63, li_97, li_99, li_120, li_122, li_144, li_168, li_194, li_240, li_255, li_284, li_299, li_603, li_999, li_1200, li_1440, li_4095, li_4096, li_6030, li_16384, li_20160, zl0, zl1, zl2, zl3, zl4, ze01, ze02, ze03, ze04, ze10, ze12, ze13, ze14, ze20, ze21, ze23, ze24, ze30, ze31, ze32, ze34, ze40, ze41, ze42, ze43, zt0, zt1, zt2, zt3, zt4, zq0, zq1, zq2, zq3, zq4, it_t, it_f, Bool.true_eq_false, Bool.false_eq_true, na5, na4, na1441, na2, na10, sx_IOIA, sx_IOIS, sx_IONS, sx_IAIO, sx_IAIS, sx_IANS, sx_ISIO, sx_ISIA, sx_ISNS, sx_NSIO, sx_NSIA, sx_NSIS]
      refine ih _ _ _ _ (by omega) ⟨i + 1, by omega, hlt, rfl, rfl, ?_, rfl⟩
      congr 1
      omega
  · obtain rfl : i = u := by omega
    simp (maxSteps := 3000000) (disch := first | assumption | omega) only [m_X12_sends_L10, bO_v, bR_v, bX_l, bX_r, bC_l, bC_r, aLet_v, nI_add, pk_mul, dvI_n, rmI_n, iMax_n, iMin_n, zO_0, zO_1, li_0, li_1, li_2, li_3, li_4, li_5, li_6, li_7, li_8, li_9, li_10, li_12, li_14, li_15, li_16, li_18, li_19, li_20, li_22, li_23, li_24, li_26, li_29, li_30, li_31, li_32, li_36, li_38, li_48, li_50, li_57, li_58, li_59, li_60, li_63, li_97, li_99, li_120, li_122, li_144, li_168, li_194, li_240, li_255, li_284, li_299, li_603, li_999, li_1200, li_1440, li_4095, li_4096, li_6030, li_16384, li_20160, zl0, zl1, zl2, zl3, zl4, ze01, ze02, ze03, ze04, ze10, ze12, ze13, ze14, ze20, ze21, ze23, ze24, ze30, ze31, ze32, ze34, ze40, ze41, ze42, ze43, zt0, zt1, zt2, zt3, zt4, zq0, zq1, zq2, zq3, zq4, it_t, it_f, Bool.true_eq_false, Bool.false_eq_true, na5, na4, na1441, na2, na10, sx_IOIA, sx_IOIS, sx_IONS, sx_IAIO, sx_IAIS, sx_IANS, sx_ISIO, sx_ISIA, sx_ISNS, sx_NSIO, sx_NSIA, sx_NSIS, nI_ltI]
    rw [if_neg hlt, hk39]
    have S1 : Sh (h_si g2 413 (14 + p) (nI i)) := Sg.si _ _ _
    have w1 : h_iv (h_si g2 413 (14 + p) (nI i)) 413 (38 + p) = nI (R (38 + p)) := by rw [si_ne (by omega)]; exact x.2 _
    have py := pyF_le (T := T) t i
    simp (maxSteps := 3000000) (disch := first | assumption | omega) only [bO_v, bR_v, bX_l, bX_r, bC_l, bC_r, aLet_v, nI_add, pk_mul, dvI_n, rmI_n, iMax_n, iMin_n, zO_0, zO_1, li_0, li_1, li_2, li_3, li_4, li_5, li_6, li_7, li_8, li_9, li_10, li_12, li_14, li_15, li_16, li_18, li_19, li_20, li_22, li_23, li_24, li_26, li_29, li_30, li_31, li_32, li_36, li_38, li_48, li_50, li_57, li_58, li_59, li_60, li_63, li_97, li_99, li_120, li_122, li_144, li_168, li_194, li_240, li_255, li_284, li_299, li_603, li_999, li_1200, li_1440, li_4095, li_4096, li_6030, li_16384, li_20160, zl0, zl1, zl2, zl3, zl4, ze01, ze02, ze03, ze04, ze10, ze12, ze13, ze14, ze20, ze21, ze23, ze24, ze30, ze31, ze32, ze34, ze40, ze41, ze42, ze43, zt0, zt1, zt2, zt3, zt4, zq0, zq1, zq2, zq3, zq4, it_t, it_f, Bool.true_eq_false, Bool.false_eq_true, na5, na4, na1441, na2, na10, sx_IOIA, sx_IOIS, sx_IONS, sx_IAIO, sx_IAIS, sx_IANS, sx_ISIO, sx_ISIA, sx_ISNS, sx_NSIO, sx_NSIA, sx_NSIS, r_p413 Sg, r_c413_as Sg, r_p413 S1, r_c413_al S1, w1, r_c413_as S1]
    exact ok_ret ⟨rfl, x.pt.pt⟩
theorem r_tlL52 (hS : Sh h) (z : RefR h T) (hD : PlD T) (hR : RwD T S) (x0 : RW h h S) {k : Nat} (hk : k < T 412 11) (e63 : h_iv h 412 63 = nI (com T S k)) {k154 : aH → Option (Int32 × aH)} {Z : Option (Int32 × aH) → Prop}
    (hk9 : ∀ g, RW h g (tlR T S k (T 431 k)) → Z (k154 g)) : Z (aL1 (m_X12_call_L52 412 (nI k) k154) FU (nI 0) h) := by
  have d0 := hD.nP
  have d1 := hD.nG
  have d3 := hD.nK
  have d4 := hD.kgn k hk
  refine aL1_run (fun m s1 g => ∃ i, i ≤ T 431 k ∧ m = T 431 k - i ∧ s1 = nI i ∧ RW h g (tlR T S k i)) ⟨0, Nat.zero_le _, rfl, rfl, x0⟩ (by omega) ?_
  rintro rec m s1 g ⟨i, hi, rfl, rfl, x1⟩ ih
  have S1 := x1.1.sh hS
  have e431 : h_iv g 431 k = nI (T 431 k) := by rw [x1.1.iv (by decide)]; exact z.c431 k
  by_cases hlt : i < T 431 k
  · have hg := hD.kg k hk i hlt
    have e432 : h_iv g 432 (6 * k + i) = nI (T 432 (6 * k + i)) := by rw [x1.1.iv (by decide)]; exact z.c432 _
    have g63 : h_iv g 412 63 = nI (com T S k) := by rw [x1.1.iv (by decide)]; exact e63
    have eo : ∀ j, (j < 50 ∨ 194 ≤ j) → tlR T S k i j = S j := fun j hj => tlR_o hD hR hk hi hj
    have R1 := tlR_R hD hR hk hi
    have z1 := x1.ref z R1.all
    have hn := hR.hn _ hg
    have rh := r_hands S1 z1 (g := T 432 (6 * k + i)) (by omega)
    rw [setW_w, eo _ (by omega)] at rh
    obtain ⟨b1, b2⟩ := tl_lt hD hR hk hlt
    simp (maxSteps := 3000000) (disch := first | assumption | omega) only [m_X12_call_L52, bO_v, bR_v, bX_l, bX_r, bC_l, bC_r, aLet_v, nI_add, pk_mul, dvI_n, rmI_n, iMax_n, iMin_n, zO_0, zO_1, li_0, li_1, li_2, li_3, li_4, li_5, li_6, li_7, li_8, li_9, li_10, li_12, li_14, li_15, li_16, li_18, li_19, li_20, li_22, li_23, li_24, li_26, li_29, li_30, li_31, li_32, li_36, li_38, li_48, li_50, li_57, li_58, li_59, li_60, li_63, li_97, li_99, li_120, li_122, li_144, li_168, li_194, li_240, li_255, li_284, li_299, li_603, li_999, li_1200, li_1440, li_4095, li_4096, li_6030, li_16384, li_20160, zl0, zl1, zl2, zl3, zl4, ze01, ze02, ze03, ze04, ze10, ze12, ze13, ze14, ze20, ze21, ze23, ze24, ze30, ze31, ze32, ze34, ze40, ze41, ze42, ze43, zt0, zt1, zt2, zt3, zt4, zq0, zq1, zq2, zq3, zq4, it_t, it_f, Bool.true_eq_false, Bool.false_eq_true, na5, na4, na1441, na2, na10, sx_IOIA, sx_IOIS, sx_IONS, sx_IAIO, sx_IAIS, sx_IANS, sx_ISIO, sx_ISIA, sx_ISNS, sx_NSIO, sx_NSIA, sx_NSIS, r_p431 S1, r_c431_al S1, e431, nI_ltI, r_p432 S1, r_c432_al S1, e432, r_cM_gS S1, rh, nI_leI]
    rw [if_pos hlt]
    refine aJ_gen (fun k148 hk148 => ?_)
    have done : ∀ g2, RW h g2 (tlR T S k (i + 1)) → Z (k148 g2) := fun g2 x2 => by
      rw [hk148]
      simp only [bO_v, bR_v, bX_l, bX_r, bC_l, bC_r, aLet_v, nI_add, pk_mul, dvI_n, rmI_n, iMax_n, iMin_n, zO_0, zO_1, li_0, li_1, li_2, li_3, li_4, li_5, li_6, li_7, li_8, li_9, li_10, li_12, li_14, li_15, li_16, li_18, li_19, li_20, li_22, li_23, li_24, li_26, li_29, li_30, li_31, li_32, li_36, li_38, li_48, li_50, li_57, li_58, li_59, li_60, li_63, li_97, li_99, li_120, li_122, li_144, li_168, li_194, li_240, li_255, li_284, li_299, li_603, li_999, li_1200, li_1440, li_4095, li_4096, li_6030, li_16384, li_20160, zl0, zl1, zl2, zl3, zl4, ze01, ze02, ze03, ze04, ze10, ze12, ze13, ze14, ze20, ze21, ze23, ze24, ze30, ze31, ze32, ze34, ze40, ze41, ze42, ze43, zt0, zt1, zt2, zt3, zt4, zq0, zq1, zq2, zq3, zq4, it_t, it_f, Bool.true_eq_false, Bool.false_eq_true, na5, na4, na1441, na2, na10, sx_IOIA, sx_IOIS, sx_IONS, sx_IAIO, sx_IAIS, sx_IANS, sx_ISIO, sx_ISIA, sx_ISNS, sx_NSIO, sx_NSIA, sx_NSIS]
      exact ih _ _ _ (by omega) ⟨i + 1, hlt, rfl, rfl, x2⟩
    by_cases c0 : S (194 + 15 * T 432 (6 * k + i) + 8) ≤ 0
    · rw [if_pos c0]
      refine done g ?_
      have cb : tlB T S k i = false := decide_eq_false (fun q => q.1 (by omega))
      rw [tlR, cb]
      exact x1
    · rw [if_neg c0]
      have ro := r_holder (T := setW T (tlR T S k i)) S1 z1 hD (by rw [setW_w]; exact R1) (g := T 432 (6 * k + i)) hg
      have rl := r_link (T := setW T (tlR T S k i)) S1 z1 hD (by rw [setW_w]; exact Nat.lt_trans R1.tm (by decide)) (g := T 432 (6 * k + i)) (k := S (194 + 15 * T 432 (6 * k + i) + 8) - 1) hg (by omega)
      rw [setW_w, eo _ (by omega)] at ro
      rw [setW_w] at rl
      have ro2 : m_X12_holder 412 (nI (T 432 (6 * k + i))) g = some (nI (tlP T S k i), g) := by
        unfold tlP
        rw [← link_tl (T := T) eo]
        exact ro
      have rl2 : m_X12_link 412 (nI (T 432 (6 * k + i))) (nI (S (194 + 15 * T 432 (6 * k + i) + 8) - 1)) g = some (nI (tlQ T S k i), g) := by
        unfold tlQ
        rw [← link_tl (T := T) eo]
        exact rl
      have cl : com T S k < 4096 := two_pow_lt d0 (mk_lt _)
      have bq : (((nI (com T S k) >>> (nI (tlP T S k i) &&& nI 31)) &&& nI 1 = nI 0) ↔ (com T S k).testBit (tlP T S k i) = false) := bit_n (by omega) (by omega)
      have cm : (com T S k).testBit (tlP T S k i) = decide (absn T S k (tlP T S k i) = 0) := by
        unfold com
        rw [mk_bit, decide_eq_true b1, Bool.true_and]
      simp (maxSteps := 3000000) (disch := first | assumption | omega) only [bO_v, bR_v, bX_l, bX_r, bC_l, bC_r, aLet_v, nI_add, pk_mul, dvI_n, rmI_n, iMax_n, iMin_n, zO_0, zO_1, li_0, li_1, li_2, li_3, li_4, li_5, li_6, li_7, li_8, li_9, li_10, li_12, li_14, li_15, li_16, li_18, li_19, li_20, li_22, li_23, li_24, li_26, li_29, li_30, li_31, li_32, li_36, li_38, li_48, li_50, li_57, li_58, li_59, li_60, li_63, li_97, li_99, li_120, li_122, li_144, li_168, li_194, li_240, li_255, li_284, li_299, li_603, li_999, li_1200, li_1440, li_4095, li_4096, li_6030, li_16384, li_20160, zl0, zl1, zl2, zl3, zl4, ze01, ze02, ze03, ze04, ze10, ze12, ze13, ze14, ze20, ze21, ze23, ze24, ze30, ze31, ze32, ze34, ze40, ze41, ze42, ze43, zt0, zt1, zt2, zt3, zt4, zq0, zq1, zq2, zq3, zq4, it_t, it_f, Bool.true_eq_false, Bool.false_eq_true, na5, na4, na1441, na2, na10, sx_IOIA, sx_IOIS, sx_IONS, sx_IAIO, sx_IAIS, sx_IANS, sx_ISIO, sx_ISIA, sx_ISNS, sx_NSIO, sx_NSIA, sx_NSIS, r_cM_gi S1, g63, ro2, bq, cm]
      by_cases c1 : absn T S k (tlP T S k i) = 0
      · rw [if_neg (by rw [decide_eq_true c1]; decide)]
        refine done g ?_
        have cb : tlB T S k i = false := decide_eq_false (fun q => q.2 c1)
        rw [tlR, cb]
        exact x1
      · rw [if_pos (decide_eq_false c1)]
        have s1 : nI (S (194 + 15 * T 432 (6 * k + i) + 8)) - nI 1 = nI (S (194 + 15 * T 432 (6 * k + i) + 8) - 1) := pk_sub (by omega)
        have cb : tlB T S k i = true := decide_eq_true ⟨by omega, c1⟩
        have e9 : tlR T S k (i + 1) = pt (tlR T S k i) (50 + 12 * tlQ T S k i + tlP T S k i) (tlR T S k i (50 + 12 * tlQ T S k i + tlP T S k i) - 1) := by rw [tlR, if_pos cb]
        have w1 := x1.2 (50 + 12 * tlQ T S k i + tlP T S k i)
        have wb := R1.all (50 + 12 * tlQ T S k i + tlP T S k i)
        have x2 := x1.pt (k := 50 + 12 * tlQ T S k i + tlP T S k i) (v := tlR T S k i (50 + 12 * tlQ T S k i + tlP T S k i) - 1)
        rw [← e9] at x2
        simp (maxSteps := 3000000) (disch := first | assumption | omega) only [r_cM_gS S1, rh, bO_v, bR_v, bX_l, bX_r, bC_l, bC_r, aLet_v, nI_add, pk_mul, dvI_n, rmI_n, iMax_n, iMin_n, zO_0, zO_1, li_0, li_1, li_2, li_3, li_4, li_5, li_6, li_7, li_8, li_9, li_10, li_12, li_14, li_15, li_16, li_18, li_19, li_20, li_22, li_23, li_24, li_26, li_29, li_30, li_31, li_32, li_36, li_38, li_48, li_50, li_57, li_58, li_59, li_60, li_63, li_97, li_99, li_120, li_122, li_144, li_168, li_194, li_240, li_255, li_284, li_299, li_603, li_999, li_1200, li_1440, li_4095, li_4096, li_6030, li_16384, li_20160, zl0, zl1, zl2, zl3, zl4, ze01, ze02, ze03, ze04, ze10, ze12, ze13, ze14, ze20, ze21, ze23, ze24, ze30, ze31, ze32, ze34, ze40, ze41, ze42, ze43, zt0, zt1, zt2, zt3, zt4, zq0, zq1, zq2, zq3, zq4, it_t, it_f, Bool.true_eq_false, Bool.false_eq_true, na5, na4, na1441, na2, na10, sx_IOIA, sx_IOIS, sx_IONS, sx_IAIO, sx_IAIS, sx_IANS, sx_ISIO, sx_ISIA, sx_ISNS, sx_NSIO, sx_NSIA, sx_NSIS, s1, rl2, ro2, r_p413 S1, r_c413_al S1, w1, nI_leI]
        rw [aJ_v]
        by_cases c2 : tlR T S k i (50 + 12 * tlQ T S k i + tlP T S k i) ≤ 0
        · rw [if_pos c2]
          have s2 : nI (tlR T S k i (50 + 12 * tlQ T S k i + tlP T S k i)) - nI 0 = nI (tlR T S k i (50 + 12 * tlQ T S k i + tlP T S k i) - 1) := by rw [pk_sub (by omega)]; congr 1; omega
          simp (maxSteps := 3000000) (disch := first | assumption | omega) only [bO_v, bR_v, bX_l, bX_r, bC_l, bC_r, aLet_v, nI_add, pk_mul, dvI_n, rmI_n, iMax_n, iMin_n, zO_0, zO_1, li_0, li_1, li_2, li_3, li_4, li_5, li_6, li_7, li_8, li_9, li_10, li_12, li_14, li_15, li_16, li_18, li_19, li_20, li_22, li_23, li_24, li_26, li_29, li_30, li_31, li_32, li_36, li_38, li_48, li_50, li_57, li_58, li_59, li_60, li_63, li_97, li_99, li_120, li_122, li_144, li_168, li_194, li_240, li_255, li_284, li_299, li_603, li_999, li_1200, li_1440, li_4095, li_4096, li_6030, li_16384, li_20160, zl0, zl1, zl2, zl3, zl4, ze01, ze02, ze03, ze04, ze10, ze12, ze13, ze14, ze20, ze21, ze23, ze24, ze30, ze31, ze32, ze34, ze40, ze41, ze42, ze43, zt0, zt1, zt2, zt3, zt4, zq0, zq1, zq2, zq3, zq4, it_t, it_f, Bool.true_eq_false, Bool.false_eq_true, na5, na4, na1441, na2, na10, sx_IOIA, sx_IOIS, sx_IONS, sx_IAIO, sx_IAIS, sx_IANS, sx_ISIO, sx_ISIA, sx_ISNS, sx_NSIO, sx_NSIA, sx_NSIS, s2, r_c413_as S1]
          exact done _ x2
        · rw [if_neg c2]
          have s2 : nI (tlR T S k i (50 + 12 * tlQ T S k i + tlP T S k i)) - nI 1 = nI (tlR T S k i (50 + 12 * tlQ T S k i + tlP T S k i) - 1) := pk_sub (by omega)
          simp (maxSteps := 3000000) (disch := first | assumption | omega) only [bO_v, bR_v, bX_l, bX_r, bC_l, bC_r, aLet_v, nI_add, pk_mul, dvI_n, rmI_n, iMax_n, iMin_n, zO_0, zO_1, li_0, li_1, li_2, li_3, li_4, li_5, li_6, li_7, li_8, li_9, li_10, li_12, li_14, li_15, li_16, li_18, li_19, li_20, li_22, li_23, li_24, li_26, li_29, li_30, li_31, li_32, li_36, li_38, li_48, li_50, li_57, li_58, li_59, li_60, li_63, li_97, li_99, li_120, li_122, li_144, li_168, li_194, li_240, li_255, li_284, li_299, li_603, li_999, li_1200, li_1440, li_4095, li_4096, li_6030, li_16384, li_20160, zl0, zl1, zl2, zl3, zl4, ze01, ze02, ze03, ze04, ze10, ze12, ze13, ze14, ze20, ze21, ze23, ze24, ze30, ze31, ze32, ze34, ze40, ze41, ze42, ze43, zt0, zt1, zt2, zt3, zt4, zq0, zq1, zq2, zq3, zq4, it_t, it_f, Bool.true_eq_false, Bool.false_eq_true, na5, na4, na1441, na2, na10, sx_IOIA, sx_IOIS, sx_IONS, sx_IAIO, sx_IAIS, sx_IANS, sx_ISIO, sx_ISIA, sx_ISNS, sx_NSIO, sx_NSIA, sx_NSIS, s2, r_c413_as S1]
          exact done _ x2
  · obtain rfl : i = T 431 k := by omega
    simp (maxSteps := 3000000) (disch := first | assumption | omega) only [m_X12_call_L52, bO_v, bR_v, bX_l, bX_r, bC_l, bC_r, aLet_v, nI_add, pk_mul, dvI_n, rmI_n, iMax_n, iMin_n, zO_0, zO_1, li_0, li_1, li_2, li_3, li_4, li_5, li_6, li_7, li_8, li_9, li_10, li_12, li_14, li_15, li_16, li_18, li_19, li_20, li_22, li_23, li_24, li_26, li_29, li_30, li_31, li_32, li_36, li_38, li_48, li_50, li_57, li_58, li_59, li_60, li_63, li_97, li_99, li_120, li_122, li_144, li_168, li_194, li_240, li_255, li_284, li_299, li_603, li_999, li_1200, li_1440, li_4095, li_4096, li_6030, li_16384, li_20160, zl0, zl1, zl2, zl3, zl4, ze01, ze02, ze03, ze04, ze10, ze12, ze13, ze14, ze20, ze21, ze23, ze24, ze30, ze31, ze32, ze34, ze40, ze41, ze42, ze43, zt0, zt1, zt2, zt3, zt4, zq0, zq1, zq2, zq3, zq4, it_t, it_f, Bool.true_eq_false, Bool.false_eq_true, na5, na4, na1441, na2, na10, sx_IOIA, sx_IOIS, sx_IONS, sx_IAIO, sx_IAIS, sx_IANS, sx_ISIO, sx_ISIA, sx_ISNS, sx_NSIO, sx_NSIA, sx_NSIS, r_p431 S1, r_c431_al S1, e431, nI_ltI]
    rw [if_neg hlt]
    exact hk9 g x1
/-- who left with an engine -/
def gnR (T : Nat → Nat → Nat) (S : Nat → Nat) (k : Nat) : Nat → Nat
  | 0 => 0
  | i + 1 => if plJ T S k i = 0 then gnR T S k i else gnR T S k i ||| plJ T S k i
theorem gn_lt (hD : PlD T) {k : Nat} (hk : k < T 412 11) : ∀ {i}, i ≤ T 433 k → gnR T S k i < 4096
  | 0, _ => show (0 : Nat) < 4096 by decide
  | i + 1, hi => by
    have h1 := gn_lt hD hk (i := i) (by omega)
    have h2 := two_pow_lt hD.nP (plJ_lt (S := S) hD hk (i := i) (by omega))
    rw [gnR]
    split
    · exact h1
    · exact Nat.or_lt_two_pow (n := 12) h1 h2
theorem gn_bit (hD : PlD T) {k p : Nat} : ∀ {i}, (plF T S k i).testBit p = ((com T S k).testBit p && !(gnR T S k i).testBit p)
  | 0 => by
    show (com T S k).testBit p = _
    rw [gnR, Nat.zero_testBit]; simp
  | i + 1 => by
    have fl : plF T S k i < 4096 := two_pow_lt hD.nP (plF_lt hD S k _)
    have e : plF T S k (i + 1) = ldf (plF T S k i) (plJ T S k i) := rfl
    rw [e, ldf_bit fl, gn_bit hD (i := i), gnR]
    split
    · rename_i c
      rw [c, Nat.zero_testBit]; simp
    · rw [Nat.testBit_or]
      cases (com T S k).testBit p <;> cases (gnR T S k i).testBit p <;> cases (plJ T S k i).testBit p <;> rfl
theorem r_crewGo (hS : Sh h) (z : RefR h T) (hD : PlD T) {g : aH} (x : RW h g R) (hR : RwD T R) {i u crew t c : Nat} (hi : i < 5) (ec : h_iv h 456 i = nI crew) (hc : crew < 4096) (e0 : R 0 = t) (ht : t ≤ 20160) (hu : u ≤ t + 1389) (h1 : t ≤ u) (hp : ∀ p, p < T 412 8 → R (38 + p) ≤ 1000000) (hc9 : c < 1000000) {k488 : Int32 → Int32 → Int32 → aH → Option (Int32 × aH)} {a b : Int32} {Z : Option (Int32 × aH) → Prop}
    (hk : ∀ g2, RW h g2 (sdR T t (fun _ => u) (fun p => crew.testBit p) (T 412 8) R) → Z (k488 (nI (c + sdK T t (fun _ => u) (fun p => crew.testBit p) (T 412 8))) b a g2)) : Z (aL2 (m_X12_call_L441 412 (nI i) k488 (nI u) a b) FU (nI c) (nI 0) g) := by
  have d0 := hD.nP
  refine aL2_run (fun m s1 s2 g2 => ∃ j, j ≤ T 412 8 ∧ m = T 412 8 - j ∧ s2 = nI j ∧ s1 = nI (c + sdK T t (fun _ => u) (fun p => crew.testBit p) j) ∧ RW h g2 (sdR T t (fun _ => u) (fun p => crew.testBit p) j R)) ⟨0, Nat.zero_le _, rfl, rfl, rfl, by rw [sdR_0]; exact x⟩ (by omega) ?_
  rintro rec m s1 s2 g2 ⟨j, hj, rfl, rfl, rfl, x2⟩ ih
  have S2 := x2.1.sh hS
  have g8 : h_iv g2 412 8 = nI (T 412 8) := by rw [x2.1.iv (by decide)]; exact z.f8
  by_cases hlt : j < T 412 8
  · have c2 : h_iv g2 456 i = nI crew := by rw [x2.1.iv (by decide)]; exact ec
    have bq : (((nI crew >>> (nI j &&& nI 31)) &&& nI 1 = nI 0) ↔ crew.testBit j = false) := bit_n (by omega) (by omega)
    simp (maxSteps := 3000000) (disch := first | assumption | omega) only [m_X12_call_L441, bO_v, bR_v, bX_l, bX_r, bC_l, bC_r, aLet_v, nI_add, pk_mul, dvI_n, rmI_n, iMax_n, iMin_n, zO_0, zO_1, li_0, li_1, li_2, li_3, li_4, li_5, li_6, li_7, li_8, li_9, li_10, li_12, li_14, li_15, li_16, li_18, li_19, li_20, li_22, li_23, li_24, li_26, li_29, li_30, li_31, li_32, li_36, li_38, li_48, li_50, li_57, li_58, li_59, li_60, li_63, li_97, li_99, li_120, li_122, li_144, li_168, li_194, li_240, li_255, li_284, li_299, li_603, li_999, li_1200, li_1440, li_4095, li_4096, li_6030, li_16384, li_20160, zl0, zl1, zl2, zl3, zl4, ze01, ze02, ze03, ze04, ze10, ze12, ze13, ze14, ze20, ze21, ze23, ze24, ze30, ze31, ze32, ze34, ze40, ze41, ze42, ze43, zt0, zt1, zt2, zt3, zt4, zq0, zq1, zq2, zq3, zq4, it_t, it_f, Bool.true_eq_false, Bool.false_eq_true, na5, na4, na1441, na2, na10, sx_IOIA, sx_IOIS, sx_IONS, sx_IAIO, sx_IAIS, sx_IANS, sx_ISIO, sx_ISIA, sx_ISNS, sx_NSIO, sx_NSIA, sx_NSIS, r_cM_gi S2, g8, nI_ltI, r_p456 S2, r_c456_al S2, c2, bq]
    rw [if_pos hlt]
    refine aJ_gen (fun k479 hk479 => ?_)
    cases cb : crew.testBit j
    · rw [if_pos rfl, hk479]
      simp (maxSteps := 3000000) (disch := first | assumption | omega) only [bO_v, bR_v, bX_l, bX_r, bC_l, bC_r, aLet_v, nI_add, pk_mul, dvI_n, rmI_n, iMax_n, iMin_n, zO_0, zO_1, li_0, li_1, li_2, li_3, li_4, li_5, li_6, li_7, li_8, li_9, li_10, li_12, li_14, li_15, li_16, li_18, li_19, li_20, li_22, li_23, li_24, li_26, li_29, li_30, li_31, li_32, li_36, li_38, li_48, li_50, li_57, li_58, li_59, li_60, li_63, li_97, li_99, li_120, li_122, li_144, li_168, li_194, li_240, li_255, li_284, li_299, li_603, li_999, li_1200, li_1440, li_4095, li_4096, li_6030, li_16384, li_20160, zl0, zl1, zl2, zl3, zl4, ze01, ze02, ze03, ze04, ze10, ze12, ze13, ze14, ze20, ze21, ze23, ze24, ze30, ze31, ze32, ze34, ze40, ze41, ze42, ze43, zt0, zt1, zt2, zt3, zt4, zq0, zq1, zq2, zq3, zq4, it_t, it_f, Bool.true_eq_false, Bool.false_eq_true, na5, na4, na1441, na2, na10, sx_IOIA, sx_IOIS, sx_IONS, sx_IAIO, sx_IAIS, sx_IANS, sx_ISIO, sx_ISIA, sx_ISNS, sx_NSIO, sx_NSIA, sx_NSIS]
      exact ih _ _ _ _ (by omega) ⟨j + 1, hlt, rfl, rfl, by rw [sdK, cb]; rfl, by rw [sdR_no cb (by omega)]; exact x2⟩
    · rw [if_neg (by decide)]
      have R2 : RwD T (sdR T t (fun _ => u) (fun p => crew.testBit p) j R) := sdR_R hD hR hj ht (fun _ _ _ => hu) (fun p hp9 => by have := hp p hp9; omega)
      have e2 : sdR T t (fun _ => u) (fun p => crew.testBit p) j R 0 = t := by rw [sdR_o (by omega) (by omega)]; exact e0
      have b2 : sdR T t (fun _ => u) (fun p => crew.testBit p) j R (38 + j) ≤ R (38 + j) + 2778 := sdR_pay (fun _ _ _ => hu) (by omega) (by omega)
      have := hp j hlt
      obtain ⟨r, g3, e3, er, x3⟩ := r_sends hS z hD x2 (p := j) (u := u) (t := t) (by omega) e2 h1 (by omega) (by omega)
      rw [er] at e3
      simp (maxSteps := 3000000) (disch := first | assumption | omega) only [bO_v, bR_v, bX_l, bX_r, bC_l, bC_r, aLet_v, nI_add, pk_mul, dvI_n, rmI_n, iMax_n, iMin_n, zO_0, zO_1, li_0, li_1, li_2, li_3, li_4, li_5, li_6, li_7, li_8, li_9, li_10, li_12, li_14, li_15, li_16, li_18, li_19, li_20, li_22, li_23, li_24, li_26, li_29, li_30, li_31, li_32, li_36, li_38, li_48, li_50, li_57, li_58, li_59, li_60, li_63, li_97, li_99, li_120, li_122, li_144, li_168, li_194, li_240, li_255, li_284, li_299, li_603, li_999, li_1200, li_1440, li_4095, li_4096, li_6030, li_16384, li_20160, zl0, zl1, zl2, zl3, zl4, ze01, ze02, ze03, ze04, ze10, ze12, ze13, ze14, ze20, ze21, ze23, ze24, ze30, ze31, ze32, ze34, ze40, ze41, ze42, ze43, zt0, zt1, zt2, zt3, zt4, zq0, zq1, zq2, zq3, zq4, it_t, it_f, Bool.true_eq_false, Bool.false_eq_true, na5, na4, na1441, na2, na10, sx_IOIA, sx_IOIS, sx_IONS, sx_IAIO, sx_IAIS, sx_IANS, sx_ISIO, sx_ISIA, sx_ISNS, sx_NSIO, sx_NSIA, sx_NSIS, r_cM_gS S2, e3, hk479]
      exact ih _ _ _ _ (by omega) ⟨j + 1, hlt, rfl, rfl, by rw [sdK, if_pos cb, Nat.add_assoc], by rw [sdR_yes cb (by omega)]; exact x3⟩
  · obtain rfl : j = T 412 8 := by omega
    simp (maxSteps := 3000000) (disch := first | assumption | omega) only [m_X12_call_L441, bO_v, bR_v, bX_l, bX_r, bC_l, bC_r, aLet_v, nI_add, pk_mul, dvI_n, rmI_n, iMax_n, iMin_n, zO_0, zO_1, li_0, li_1, li_2, li_3, li_4, li_5, li_6, li_7, li_8, li_9, li_10, li_12, li_14, li_15, li_16, li_18, li_19, li_20, li_22, li_23, li_24, li_26, li_29, li_30, li_31, li_32, li_36, li_38, li_48, li_50, li_57, li_58, li_59, li_60, li_63, li_97, li_99, li_120, li_122, li_144, li_168, li_194, li_240, li_255, li_284, li_299, li_603, li_999, li_1200, li_1440, li_4095, li_4096, li_6030, li_16384, li_20160, zl0, zl1, zl2, zl3, zl4, ze01, ze02, ze03, ze04, ze10, ze12, ze13, ze14, ze20, ze21, ze23, ze24, ze30, ze31, ze32, ze34, ze40, ze41, ze42, ze43, zt0, zt1, zt2, zt3, zt4, zq0, zq1, zq2, zq3, zq4, it_t, it_f, Bool.true_eq_false, Bool.false_eq_true, na5, na4, na1441, na2, na10, sx_IOIA, sx_IOIS, sx_IONS, sx_IAIO, sx_IAIS, sx_IANS, sx_ISIO, sx_ISIA, sx_ISNS, sx_NSIO, sx_NSIA, sx_NSIS, r_cM_gi S2, g8, nI_ltI]
    rw [if_neg hlt]
    exact hk g2 x2
end
