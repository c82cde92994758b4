/-! the reference's reader: names -/
/-- ints but scratch stay -/
def RI (h h1 : aH) : Prop := ∀ o k, ¬ RSx o k → h_iv h1 o k = h_iv h o k
/-- scratch and one name were written -/
def RNm (w : Nat) (h h1 : aH) : Prop := h_nx h1 = h_nx h ∧ h_sl h1 = h_sl h ∧ h_sh h1 = h_sh h ∧ h_ln h1 = h_ln h ∧ h_rv h1 = h_rv h ∧ RI h h1 ∧ ∀ o k, ¬ ((o = 412 ∧ k = 36) ∨ (o = 437 ∧ k = w)) → h_lv h1 o k = h_lv h o k
def NY (tx : Nat → Nat) (n : Nat) (M : Nat → Nat → Nat) (so cnt : Nat) (h : aH) : Prop := ∀ i, i < cnt → nmd tx n (M 419 (nmB so + i)) = true ∧ h_lv h 437 (nmB so + i) = lN (cd tx n (M 419 (nmB so + i)))
section
variable {h h0 : aH} {tx : Nat → Nat} {n s : Nat} {M : Nat → Nat → Nat}
theorem RZ.ri {h1 : aH} (x : RZ h h1) : RI h h1 := x.2.2.2.2.2.1
theorem RZ.rn {h1 : aH} {w : Nat} (x : RZ h h1) : RNm w h h1 := ⟨x.1, x.2.1, x.2.2.1, x.2.2.2.1, x.2.2.2.2.1, x.2.2.2.2.2.1, fun o k q => x.2.2.2.2.2.2 o k (fun r => q (Or.inl r))⟩
theorem RNm.trans {w : Nat} {h1 h2 : aH} (x : RNm w h h1) (y : RNm w h1 h2) : RNm w h h2 := ⟨y.1.trans x.1, y.2.1.trans x.2.1, y.2.2.1.trans x.2.2.1, y.2.2.2.1.trans x.2.2.2.1, y.2.2.2.2.1.trans x.2.2.2.2.1, fun o k q => (y.2.2.2.2.2.1 o k q).trans (x.2.2.2.2.2.1 o k q), fun o k q => (y.2.2.2.2.2.2 o k q).trans (x.2.2.2.2.2.2 o k q)⟩
theorem RNm.sL {w : Nat} {y : Int64} : RNm w h (h_sL h 437 w y) := ⟨rfl, rfl, rfl, rfl, rfl, fun _ _ _ => rfl, fun o k q => u2n (fun e => q (Or.inr e))⟩
theorem GS.sL (G : GS tx n h0 h s) {k : Nat} {y : Int64} : GS tx n h0 (h_sL h 437 k y) s := by
  obtain ⟨g1, g2, g3, g4, g5, g6, g7⟩ := G
  exact ⟨g1.sL _ _ _, g2.trans (RY.sL (Or.inr rfl)), g3, g4, g5, g6, g7⟩
theorem GS.si (G : GS tx n h0 h s) {o k v : Nat} (ho : RX o k) (hk : ¬ (o = 412 ∧ k < 34)) (hv : v < 2147483600) : GS tx n h0 (h_si h o k (nI v)) s := by
  obtain ⟨g1, g2, g3, g4, ⟨p, p1, p2, p3⟩, g6, g7⟩ := G
  exact ⟨g1.si _ _ _, g2.trans (RY.fx (A := fun a b => a = o ∧ b = k) (Fx.si ⟨rfl, rfl⟩) (fun a b r => by rw [r.1, r.2]; exact ho)), g3.si hv, by rw [si_ne (by omega)]; exact g4, ⟨p, p1, by rw [si_ne (by omega)]; exact p2, p3⟩, by rw [si_ne (by omega)]; exact g6, by rw [si_ne (by omega)]; exact g7⟩
theorem BE.si {e : ER} (G : BE n h0 h e) {o k v : Nat} (ho : RX o k) (hk : ¬ (o = 412 ∧ k < 34)) (hv : v < 2147483600) : BE n h0 (h_si h o k (nI v)) e := by
  obtain ⟨g1, g2, g3, g4, ⟨p, p1, p2⟩, g6, g7⟩ := G
  exact ⟨g1.si _ _ _, g2.trans (RY.fx (A := fun a b => a = o ∧ b = k) (Fx.si ⟨rfl, rfl⟩) (fun a b r => by rw [r.1, r.2]; exact ho)), g3.si hv, by rw [si_ne (by omega)]; exact g4, ⟨p, p1, by rw [si_ne (by omega)]; exact p2⟩, by rw [si_ne (by omega)]; exact g6, by rw [si_ne (by omega)]; exact g7⟩
theorem wle_pos (hs : s ≤ n) : tok tx n s = 1 ↔ 1 ≤ wle tx n s := by
  rw [tok1]
  constructor
  · rintro ⟨a, b⟩
    exact run_pos a b
  · intro a
    have l : wle tx n s ≤ n - s := run_le
    refine ⟨by omega, ?_⟩
    have := run_in (tx := tx) (q := isLt) (n := n) (p := s) (k := 0) (by unfold wle at a; omega)
    exact this
theorem cd_pos (h : 1 ≤ wle tx n s) : 1 ≤ cd tx n s := by
  unfold cd
  obtain ⟨k, e⟩ : ∃ k, wle tx n s = k + 1 := ⟨wle tx n s - 1, by omega⟩
  have := wd_in (tx := tx) (n := n) (s := s) (k := k) (by omega)
  rw [e, enc]
  omega
theorem cd_63 (h : wle tx n s ≤ 8) : cd tx n s < 2 ^ 63 := Nat.lt_trans (cd_lt h) (by decide)
theorem lN_int {m : Nat} (h : m < 2 ^ 63) : (lN m).toInt = m := by rw [lN_ti (by omega), if_pos h]
theorem wv_name (h : nmd tx n s = true) : wv tx n s = lN (cd tx n s) ∧ 1 ≤ cd tx n s ∧ cd tx n s < 2 ^ 63 := by
  obtain ⟨a, b⟩ := of_decide_eq_true h
  obtain ⟨c1, c2⟩ := tok1.mp a
  exact ⟨if_pos b, cd_pos (run_pos c1 c2), cd_63 b⟩
theorem wv_no (hs : s ≤ n) (h : nmd tx n s = false) : (wv tx n s).toInt ≤ 0 := by
  have q := of_decide_eq_false h
  rw [wle_pos hs] at q
  unfold wv
  by_cases c : wle tx n s ≤ 8
  · rw [if_pos c]
    have e : wle tx n s = 0 := by omega
    unfold cd
    rw [e]
    show (lN 0).toInt ≤ 0
    decide
  · rw [if_neg c]; decide
theorem wv_is (hs : s ≤ n) {c : Nat} (h1 : 1 ≤ c) (h2 : c < 2 ^ 63) : wv tx n s = lN c ↔ isWd tx n s c = true := by
  unfold isWd
  cases e : nmd tx n s
  · have := wv_no hs e
    constructor
    · intro q
      rw [q, lN_int h2] at this
      omega
    · intro q; cases q
  · obtain ⟨a, b, c3⟩ := wv_name e
    rw [a, fb_lN_inj c3 h2, Bool.true_and, decide_eq_true_iff]
theorem y_name (X : TR tx n h0) (G : GS tx n h0 h s) : YP n h0 (m_X12_name 412 h) (if nmd tx n s = false then (.inl (1, s) : ER ⊕ Nat) else .inr (adv tx n s)) (fun r h1 => RI h h1 ∧ r = 0) (fun s' r h1 => GS tx n h0 h1 s' ∧ RZ h h1 ∧ r = lN (cd tx n s) ∧ h_iv h1 412 37 = nI s) := by
  have G0 := G
  obtain ⟨g1, g2, g3, g4, ⟨p, p1, p2, p3⟩, g6, g7⟩ := G
  have X0 := X.ry g2
  have sl := G0.le
  have wl : wle tx n s ≤ n - s := run_le
  obtain ⟨r, h1, e1, rfl, F1, a30, a37⟩ := y_word g1 X0 p2 p1 p3
  have S1 := F1.sh g1
  have S2 : Sh (h_sL h1 412 36 (wv tx n s)) := S1.sL _ _ _
  have l2 : h_lv (h_sL h1 412 36 (wv tx n s)) 412 36 = wv tx n s := sL_at
  have i2 : h_iv (h_sL h1 412 36 (wv tx n s)) = h_iv h1 := rfl
  have Z2 : RZ h (h_sL h1 412 36 (wv tx n s)) := (RZ.fx F1 (fun o k r => by unfold RSx; omega)).trans RZ.sL
  simp (maxSteps := 3000000) (disch := first | assumption | omega) only [m_X12_name, bO_v, bR_v, bX_l, bX_r, bC_l, bC_r, aLet_v, nI_add, pk_mul, dvI_n, rmI_n, iMax_n, iMin_n, zO_0, zO_1, li_0, li_1, li_2, li_3, li_4, li_5, li_6, li_7, li_8, li_9, li_10, li_12, li_14, li_15, li_16, li_18, li_19, li_20, li_22, li_23, li_24, li_26, li_29, li_30, li_31, li_32, li_36, li_38, li_48, li_50, li_57, li_58, li_59, li_60, li_63, li_97, li_99, li_120, li_122, li_144, li_168, li_194, li_240, li_255, li_284, li_299, li_603, li_999, li_1200, li_1440, li_4095, li_4096, li_6030, li_16384, li_20160, zl0, zl1, zl2, zl3, zl4, ze01, ze02, ze03, ze04, ze10, ze12, ze13, ze14, ze20, ze21, ze23, ze24, ze30, ze31, ze32, ze34, ze40, ze41, ze42, ze43, zt0, zt1, zt2, zt3, zt4, zq0, zq1, zq2, zq3, zq4, it_t, it_f, Bool.true_eq_false, Bool.false_eq_true, na5, na4, na1441, na2, na10, sx_IOIA, sx_IOIS, sx_IONS, sx_IAIO, sx_IAIS, sx_IANS, sx_ISIO, sx_ISIA, sx_ISNS, sx_NSIO, sx_NSIA, sx_NSIS, r_cM_gS g1, e1, r_cM_pL S1, r_cM_gL S2, l2, lgc_len]
  generalize h_sL h1 412 36 (wv tx n s) = h2 at *
  have z0 : (0 : Int64).toInt = 0 := rfl
  cases e : nmd tx n s
  · rw [if_pos (by rw [z0]; exact wv_no sl.1 e), if_pos rfl]
    have b30 : h_iv h2 412 30 = nI (s + wle tx n s) := by rw [i2]; exact a30
    have b37 : h_iv h2 412 37 = nI s := by rw [i2]; exact a37
    obtain ⟨h3, e3, b3, F3⟩ := y_fault (n := n) S2 (g2.trans Z2.ry) (g3.rz Z2) (by rw [i2, F1.iv (by omega)]; exact g4) (show s + wle tx n s ≤ n by omega) b30 (c := 1) (w := s)
    simp (maxSteps := 3000000) (disch := first | assumption | omega) only [bO_v, bR_v, bX_l, bX_r, bC_l, bC_r, aLet_v, nI_add, pk_mul, dvI_n, rmI_n, iMax_n, iMin_n, zO_0, zO_1, li_0, li_1, li_2, li_3, li_4, li_5, li_6, li_7, li_8, li_9, li_10, li_12, li_14, li_15, li_16, li_18, li_19, li_20, li_22, li_23, li_24, li_26, li_29, li_30, li_31, li_32, li_36, li_38, li_48, li_50, li_57, li_58, li_59, li_60, li_63, li_97, li_99, li_120, li_122, li_144, li_168, li_194, li_240, li_255, li_284, li_299, li_603, li_999, li_1200, li_1440, li_4095, li_4096, li_6030, li_16384, li_20160, zl0, zl1, zl2, zl3, zl4, ze01, ze02, ze03, ze04, ze10, ze12, ze13, ze14, ze20, ze21, ze23, ze24, ze30, ze31, ze32, ze34, ze40, ze41, ze42, ze43, zt0, zt1, zt2, zt3, zt4, zq0, zq1, zq2, zq3, zq4, it_t, it_f, Bool.true_eq_false, Bool.false_eq_true, na5, na4, na1441, na2, na10, sx_IOIA, sx_IOIS, sx_IONS, sx_IAIO, sx_IAIS, sx_IANS, sx_ISIO, sx_ISIA, sx_ISNS, sx_NSIO, sx_NSIA, sx_NSIS, r_cM_gi S2, b37, r_cM_gS S2, e3]
    exact ok_ret ⟨b3, (Z2.trans (RZ.fx F3 (fun o k r => r))).ri, rfl⟩
  · obtain ⟨w1, w2, w3⟩ := wv_name e
    obtain ⟨t1, t2⟩ := of_decide_eq_true e
    rw [if_neg (by rw [z0, w1, lN_int w3]; omega), if_neg (by decide)]
    refine ok_ret ⟨G0.rz Z2 ⟨by rw [i2, F1.iv (by omega)], by rw [i2, F1.iv (by omega)], by rw [i2, F1.iv (by omega)]⟩ ⟨s + wle tx n s, by omega, by rw [i2]; exact a30, ?_⟩, Z2, w1, by rw [i2]; exact a37⟩
    unfold adv
    rw [nxt1 t1]
theorem y_place (hS : Sh h) {b cnt : Nat} (hb : b + cnt ≤ 29) {v : Int64} : m_X12_place 412 (nI b) (nI cnt) v h = some (if fa_first (fun i => decide (h_lv h 437 (b + i) = v)) cnt < cnt then nI (fa_first (fun i => decide (h_lv h 437 (b + i) = v)) cnt) else -nI 1, h) := by
  simp (maxSteps := 3000000) (disch := first | assumption | omega) only [m_X12_place, bO_v, bR_v, bX_l, bX_r, bC_l, bC_r, aLet_v, nI_add, pk_mul, dvI_n, rmI_n, iMax_n, iMin_n, zO_0, zO_1, li_0, li_1, li_2, li_3, li_4, li_5, li_6, li_7, li_8, li_9, li_10, li_12, li_14, li_15, li_16, li_18, li_19, li_20, li_22, li_23, li_24, li_26, li_29, li_30, li_31, li_32, li_36, li_38, li_48, li_50, li_57, li_58, li_59, li_60, li_63, li_97, li_99, li_120, li_122, li_144, li_168, li_194, li_240, li_255, li_284, li_299, li_603, li_999, li_1200, li_1440, li_4095, li_4096, li_6030, li_16384, li_20160, zl0, zl1, zl2, zl3, zl4, ze01, ze02, ze03, ze04, ze10, ze12, ze13, ze14, ze20, ze21, ze23, ze24, ze30, ze31, ze32, ze34, ze40, ze41, ze42, ze43, zt0, zt1, zt2, zt3, zt4, zq0, zq1, zq2, zq3, zq4, it_t, it_f, Bool.true_eq_false, Bool.false_eq_true, na5, na4, na1441, na2, na10, sx_IOIA, sx_IOIS, sx_IONS, sx_IAIO, sx_IAIS, sx_IANS, sx_ISIO, sx_ISIA, sx_ISNS, sx_NSIO, sx_NSIA, sx_NSIS]
  rw [aJ_v, aJ_v]
  refine aL1_run (R := fun o => o = some (if fa_first (fun i => decide (h_lv h 437 (b + i) = v)) cnt < cnt then nI (fa_first (fun i => decide (h_lv h 437 (b + i) = v)) cnt) else -nI 1, h)) (fun m s1 g => g = h ∧ ∃ i, i ≤ cnt ∧ m = cnt - i ∧ s1 = nI i ∧ ∀ j, j < i → h_lv h 437 (b + j) ≠ v) ⟨rfl, 0, Nat.zero_le _, rfl, rfl, fun j r => absurd r (Nat.not_lt_zero j)⟩ (by omega) ?_
  rintro rec m s1 g ⟨rfl, i, hi, rfl, rfl, no⟩ ih
  by_cases hlt : i < cnt
  · simp (maxSteps := 3000000) (disch := first | assumption | omega) only [m_X12_place_L3, bO_v, bR_v, bX_l, bX_r, bC_l, bC_r, aLet_v, nI_add, pk_mul, dvI_n, rmI_n, iMax_n, iMin_n, zO_0, zO_1, li_0, li_1, li_2, li_3, li_4, li_5, li_6, li_7, li_8, li_9, li_10, li_12, li_14, li_15, li_16, li_18, li_19, li_20, li_22, li_23, li_24, li_26, li_29, li_30, li_31, li_32, li_36, li_38, li_48, li_50, li_57, li_58, li_59, li_60, li_63, li_97, li_99, li_120, li_122, li_144, li_168, li_194, li_240, li_255, li_284, li_299, li_603, li_999, li_1200, li_1440, li_4095, li_4096, li_6030, li_16384, li_20160, zl0, zl1, zl2, zl3, zl4, ze01, ze02, ze03, ze04, ze10, ze12, ze13, ze14, ze20, ze21, ze23, ze24, ze30, ze31, ze32, ze34, ze40, ze41, ze42, ze43, zt0, zt1, zt2, zt3, zt4, zq0, zq1, zq2, zq3, zq4, it_t, it_f, Bool.true_eq_false, Bool.false_eq_true, na5, na4, na1441, na2, na10, sx_IOIA, sx_IOIS, sx_IONS, sx_IAIO, sx_IAIS, sx_IANS, sx_ISIO, sx_ISIA, sx_ISNS, sx_NSIO, sx_NSIA, sx_NSIS, nI_ltI, r_p437 hS, r_c437_al hS, lgc_eqn]
    rw [if_pos hlt]
    by_cases c : h_lv g 437 (b + i) = v
    · rw [if_pos c]
      have e : fa_first (fun i => decide (h_lv g 437 (b + i) = v)) cnt = i := by
        rcases Nat.lt_trichotomy (fa_first (fun i => decide (h_lv g 437 (b + i) = v)) cnt) i with q | q | q
        · have := fa_first_yes (fun i => decide (h_lv g 437 (b + i) = v)) cnt (by omega)
          exact absurd (of_decide_eq_true this) (no _ q)
        · exact q
        · have := fa_first_no (fun i => decide (h_lv g 437 (b + i) = v)) cnt i q
          exact absurd c (of_decide_eq_false this)
      rw [e, if_pos hlt]
    · rw [if_neg c]
      refine ih _ _ _ (by omega) ⟨rfl, i + 1, hlt, rfl, rfl, fun j hj => ?_⟩
      by_cases cj : j = i
      · rw [cj]; exact c
      · exact no j (by omega)
  · obtain rfl : i = cnt := by omega
    simp (maxSteps := 3000000) (disch := first | assumption | omega) only [m_X12_place_L3, bO_v, bR_v, bX_l, bX_r, bC_l, bC_r, aLet_v, nI_add, pk_mul, dvI_n, rmI_n, iMax_n, iMin_n, zO_0, zO_1, li_0, li_1, li_2, li_3, li_4, li_5, li_6, li_7, li_8, li_9, li_10, li_12, li_14, li_15, li_16, li_18, li_19, li_20, li_22, li_23, li_24, li_26, li_29, li_30, li_31, li_32, li_36, li_38, li_48, li_50, li_57, li_58, li_59, li_60, li_63, li_97, li_99, li_120, li_122, li_144, li_168, li_194, li_240, li_255, li_284, li_299, li_603, li_999, li_1200, li_1440, li_4095, li_4096, li_6030, li_16384, li_20160, zl0, zl1, zl2, zl3, zl4, ze01, ze02, ze03, ze04, ze10, ze12, ze13, ze14, ze20, ze21, ze23, ze24, ze30, ze31, ze32, ze34, ze40, ze41, ze42, ze43, zt0, zt1, zt2, zt3, zt4, zq0, zq1, zq2, zq3, zq4, it_t, it_f, Bool.true_eq_false, Bool.false_eq_true, na5, na4, na1441, na2, na10, sx_IOIA, sx_IOIS, sx_IONS, sx_IAIO, sx_IAIS, sx_IANS, sx_ISIO, sx_ISIA, sx_ISNS, sx_NSIO, sx_NSIA, sx_NSIS, nI_ltI]
    rw [if_neg hlt, if_neg (fst_nlt (fun j hj => decide_eq_false (no j hj)))]
theorem y_fnd {so cnt : Nat} (N : NY tx n M so cnt h) (hn : nmd tx n s = true) : fa_first (fun i => decide (h_lv h 437 (nmB so + i) = lN (cd tx n s))) cnt = fnd tx n M so cnt s := by
  have e : ∀ i, i < cnt → (decide (h_lv h 437 (nmB so + i) = lN (cd tx n s))) = decide (cd tx n (M 419 (nmB so + i)) = cd tx n s) := fun i hi => by
    obtain ⟨n1, n2⟩ := N i hi
    rw [n2]
    exact decide_eq_decide.mpr (fb_lN_inj (cd_63 (of_decide_eq_true n1).2) (cd_63 (of_decide_eq_true hn).2))
  unfold fnd
  have l1 := fa_first_le (fun i => decide (h_lv h 437 (nmB so + i) = lN (cd tx n s))) cnt
  have l2 := fa_first_le (fun i => decide (cd tx n (M 419 (nmB so + i)) = cd tx n s)) cnt
  rcases Nat.lt_trichotomy (fa_first (fun i => decide (h_lv h 437 (nmB so + i) = lN (cd tx n s))) cnt) (fa_first (fun i => decide (cd tx n (M 419 (nmB so + i)) = cd tx n s)) cnt) with q | q | q
  · have a := fa_first_yes (fun i => decide (h_lv h 437 (nmB so + i) = lN (cd tx n s))) cnt (by omega)
    have b := fa_first_no (fun i => decide (cd tx n (M 419 (nmB so + i)) = cd tx n s)) cnt _ q
    have c := e _ (show fa_first (fun i => decide (h_lv h 437 (nmB so + i) = lN (cd tx n s))) cnt < cnt by omega)
    exact absurd (a.symm.trans (c.trans b)) (by decide)
  · exact q
  · have a := fa_first_yes (fun i => decide (cd tx n (M 419 (nmB so + i)) = cd tx n s)) cnt (by omega)
    have b := fa_first_no (fun i => decide (h_lv h 437 (nmB so + i) = lN (cd tx n s))) cnt _ q
    have c := e _ (show fa_first (fun i => decide (cd tx n (M 419 (nmB so + i)) = cd tx n s)) cnt < cnt by omega)
    exact absurd (b.symm.trans (c.trans a)) (by decide)
theorem ne_m1 {k : Nat} (hk : k < 1000) : ¬ nI k < nI 0 := fun q => by
  rw [fa_lt, nI_toInt (by omega)] at q
  have e : (nI 0).toInt = (0 : Int) := rfl
  omega
theorem m1_lt : -nI 1 < nI 0 := by decide
theorem y_newName (X : TR tx n h0) (G : GS tx n h0 h s) {so cnt : Nat} (N : NY tx n M so cnt h) (hb : nmB so + cnt < 29) : YP n h0 (m_X12_newName 412 (nI (nmB so)) (nI cnt) h) (sNew tx n M so cnt s) (fun _ h1 => RI h h1) (fun s' _ h1 => GS tx n h0 h1 s' ∧ RNm (nmB so + cnt) h h1 ∧ h_lv h1 437 (nmB so + cnt) = lN (cd tx n s) ∧ nmd tx n s = true) := by
  have g1 := G.1
  obtain ⟨r, h1, e1, hh⟩ := y_name X G
  have z : (nI 0 = nI 0) = True := eq_self _
  have z1 : (nI 1 = nI 0) = False := eq_false (by decide)
  unfold sNew
  simp (maxSteps := 3000000) (disch := first | assumption | omega) only [m_X12_newName, bO_v, bR_v, bX_l, bX_r, bC_l, bC_r, aLet_v, nI_add, pk_mul, dvI_n, rmI_n, iMax_n, iMin_n, zO_0, zO_1, li_0, li_1, li_2, li_3, li_4, li_5, li_6, li_7, li_8, li_9, li_10, li_12, li_14, li_15, li_16, li_18, li_19, li_20, li_22, li_23, li_24, li_26, li_29, li_30, li_31, li_32, li_36, li_38, li_48, li_50, li_57, li_58, li_59, li_60, li_63, li_97, li_99, li_120, li_122, li_144, li_168, li_194, li_240, li_255, li_284, li_299, li_603, li_999, li_1200, li_1440, li_4095, li_4096, li_6030, li_16384, li_20160, zl0, zl1, zl2, zl3, zl4, ze01, ze02, ze03, ze04, ze10, ze12, ze13, ze14, ze20, ze21, ze23, ze24, ze30, ze31, ze32, ze34, ze40, ze41, ze42, ze43, zt0, zt1, zt2, zt3, zt4, zq0, zq1, zq2, zq3, zq4, it_t, it_f, Bool.true_eq_false, Bool.false_eq_true, na5, na4, na1441, na2, na10, sx_IOIA, sx_IOIS, sx_IONS, sx_IAIO, sx_IAIS, sx_IANS, sx_ISIO, sx_ISIA, sx_ISNS, sx_NSIO, sx_NSIA, sx_NSIS, r_cM_gS g1, e1]
  cases nd : nmd tx n s
  · rw [nd, if_pos rfl] at hh
    obtain ⟨b1, r1, rfl⟩ := hh
    rw [if_pos rfl]
    simp (maxSteps := 3000000) (disch := first | assumption | omega) only [bO_v, bR_v, bX_l, bX_r, bC_l, bC_r, aJ_v, aLet_v, nI_add, pk_mul, dvI_n, rmI_n, iMax_n, iMin_n, zO_0, zO_1, li_0, li_1, li_2, li_3, li_4, li_5, li_6, li_7, li_8, li_9, li_10, li_12, li_14, li_15, li_16, li_18, li_19, li_20, li_22, li_23, li_24, li_26, li_29, li_30, li_31, li_32, li_36, li_38, li_48, li_50, li_57, li_58, li_59, li_60, li_63, li_97, li_99, li_120, li_122, li_144, li_168, li_194, li_240, li_255, li_284, li_299, li_603, li_999, li_1200, li_1440, li_4095, li_4096, li_6030, li_16384, li_20160, zl0, zl1, zl2, zl3, zl4, ze01, ze02, ze03, ze04, ze10, ze12, ze13, ze14, ze20, ze21, ze23, ze24, ze30, ze31, ze32, ze34, ze40, ze41, ze42, ze43, zt0, zt1, zt2, zt3, zt4, zq0, zq1, zq2, zq3, zq4, it_t, it_f, Bool.true_eq_false, Bool.false_eq_true, na5, na4, na1441, na2, na10, sx_IOIA, sx_IOIS, sx_IONS, sx_IAIO, sx_IAIS, sx_IANS, sx_ISIO, sx_ISIA, sx_ISNS, sx_NSIO, sx_NSIA, sx_NSIS, r_cM_gi b1.1, b1.2.2.2.1, z1]
    exact ok_ret ⟨b1, r1⟩
  · rw [nd, if_neg (by decide)] at hh
    obtain ⟨G1, Z1, rfl, a37⟩ := hh
    have S1 := G1.1
    have N1 : NY tx n M so cnt h1 := fun i hi => ⟨(N i hi).1, by rw [Z1.2.2.2.2.2.2 _ _ (by omega)]; exact (N i hi).2⟩
    have pl := y_place S1 (b := nmB so) (cnt := cnt) (by omega) (v := lN (cd tx n s))
    rw [y_fnd N1 nd] at pl
    have fl : fnd tx n M so cnt s ≤ cnt := fa_first_le _ _
    rw [if_neg (by decide)]
    generalize hB : (fun (_ : Unit) (h1 : aH) => RI h h1) = B
    generalize hK : (fun (s' : Nat) (_ : Unit) (h1 : aH) => GS tx n h0 h1 s' ∧ RNm (nmB so + cnt) h h1 ∧ h_lv h1 437 (nmB so + cnt) = lN (cd tx n s) ∧ true = true) = K
    simp (maxSteps := 3000000) (disch := first | assumption | omega) only [bO_v, bR_v, bX_l, bX_r, bC_l, bC_r, aLet_v, nI_add, pk_mul, dvI_n, rmI_n, iMax_n, iMin_n, zO_0, zO_1, li_0, li_1, li_2, li_3, li_4, li_5, li_6, li_7, li_8, li_9, li_10, li_12, li_14, li_15, li_16, li_18, li_19, li_20, li_22, li_23, li_24, li_26, li_29, li_30, li_31, li_32, li_36, li_38, li_48, li_50, li_57, li_58, li_59, li_60, li_63, li_97, li_99, li_120, li_122, li_144, li_168, li_194, li_240, li_255, li_284, li_299, li_603, li_999, li_1200, li_1440, li_4095, li_4096, li_6030, li_16384, li_20160, zl0, zl1, zl2, zl3, zl4, ze01, ze02, ze03, ze04, ze10, ze12, ze13, ze14, ze20, ze21, ze23, ze24, ze30, ze31, ze32, ze34, ze40, ze41, ze42, ze43, zt0, zt1, zt2, zt3, zt4, zq0, zq1, zq2, zq3, zq4, it_t, it_f, Bool.true_eq_false, Bool.false_eq_true, na5, na4, na1441, na2, na10, sx_IOIA, sx_IOIS, sx_IONS, sx_IAIO, sx_IAIS, sx_IANS, sx_ISIO, sx_ISIA, sx_ISNS, sx_NSIO, sx_NSIA, sx_NSIS, r_cM_gi S1, G1.2.2.2.1, z, r_cM_gS S1, pl]
    refine aJ_gen (R := fun o => YP n h0 o _ B K) (fun k31 hk31 => ?_)
    by_cases c : fnd tx n M so cnt s < cnt
    · rw [if_pos c, if_pos c, if_neg (ne_m1 (by omega))]
      obtain ⟨p, p1, p2, p3⟩ := G1.2.2.2.2.1
      obtain ⟨h3, e3, b3, F3⟩ := y_fault (n := n) S1 G1.2.1 G1.2.2.1 G1.2.2.2.1 p1 p2 (c := 3) (w := s)
      simp (maxSteps := 3000000) (disch := first | assumption | omega) only [bO_v, bR_v, bX_l, bX_r, bC_l, bC_r, aLet_v, nI_add, pk_mul, dvI_n, rmI_n, iMax_n, iMin_n, zO_0, zO_1, li_0, li_1, li_2, li_3, li_4, li_5, li_6, li_7, li_8, li_9, li_10, li_12, li_14, li_15, li_16, li_18, li_19, li_20, li_22, li_23, li_24, li_26, li_29, li_30, li_31, li_32, li_36, li_38, li_48, li_50, li_57, li_58, li_59, li_60, li_63, li_97, li_99, li_120, li_122, li_144, li_168, li_194, li_240, li_255, li_284, li_299, li_603, li_999, li_1200, li_1440, li_4095, li_4096, li_6030, li_16384, li_20160, zl0, zl1, zl2, zl3, zl4, ze01, ze02, ze03, ze04, ze10, ze12, ze13, ze14, ze20, ze21, ze23, ze24, ze30, ze31, ze32, ze34, ze40, ze41, ze42, ze43, zt0, zt1, zt2, zt3, zt4, zq0, zq1, zq2, zq3, zq4, it_t, it_f, Bool.true_eq_false, Bool.false_eq_true, na5, na4, na1441, na2, na10, sx_IOIA, sx_IOIS, sx_IONS, sx_IAIO, sx_IAIS, sx_IANS, sx_ISIO, sx_ISIA, sx_ISNS, sx_NSIO, sx_NSIA, sx_NSIS, r_cM_gi S1, a37, r_cM_gS S1, e3]
      rw [hk31, ← hB]
      simp (maxSteps := 3000000) (disch := first | assumption | omega) only [bO_v, bR_v, bX_l, bX_r, bC_l, bC_r, aJ_v, aLet_v, nI_add, pk_mul, dvI_n, rmI_n, iMax_n, iMin_n, zO_0, zO_1, li_0, li_1, li_2, li_3, li_4, li_5, li_6, li_7, li_8, li_9, li_10, li_12, li_14, li_15, li_16, li_18, li_19, li_20, li_22, li_23, li_24, li_26, li_29, li_30, li_31, li_32, li_36, li_38, li_48, li_50, li_57, li_58, li_59, li_60, li_63, li_97, li_99, li_120, li_122, li_144, li_168, li_194, li_240, li_255, li_284, li_299, li_603, li_999, li_1200, li_1440, li_4095, li_4096, li_6030, li_16384, li_20160, zl0, zl1, zl2, zl3, zl4, ze01, ze02, ze03, ze04, ze10, ze12, ze13, ze14, ze20, ze21, ze23, ze24, ze30, ze31, ze32, ze34, ze40, ze41, ze42, ze43, zt0, zt1, zt2, zt3, zt4, zq0, zq1, zq2, zq3, zq4, it_t, it_f, Bool.true_eq_false, Bool.false_eq_true, na5, na4, na1441, na2, na10, sx_IOIA, sx_IOIS, sx_IONS, sx_IAIO, sx_IAIS, sx_IANS, sx_ISIO, sx_ISIA, sx_ISNS, sx_NSIO, sx_NSIA, sx_NSIS, r_cM_gi b3.1, b3.2.2.2.1, z1]
      exact ok_ret ⟨b3, (Z1.trans (RZ.fx F3 (fun o k r => r))).ri⟩
    · rw [if_neg c, if_neg c, if_pos m1_lt, hk31, ← hK]
      have w : asL h1 437 (nI (nmB so + cnt)) (lN (cd tx n s)) = some (h_sL h1 437 (nmB so + cnt) (lN (cd tx n s))) := r_c437_as S1 _ hb
      simp (maxSteps := 3000000) (disch := first | assumption | omega) only [bO_v, bR_v, bX_l, bX_r, bC_l, bC_r, aJ_v, aLet_v, nI_add, pk_mul, dvI_n, rmI_n, iMax_n, iMin_n, zO_0, zO_1, li_0, li_1, li_2, li_3, li_4, li_5, li_6, li_7, li_8, li_9, li_10, li_12, li_14, li_15, li_16, li_18, li_19, li_20, li_22, li_23, li_24, li_26, li_29, li_30, li_31, li_32, li_36, li_38, li_48, li_50, li_57, li_58, li_59, li_60, li_63, li_97, li_99, li_120, li_122, li_144, li_168, li_194, li_240, li_255, li_284, li_299, li_603, li_999, li_1200, li_1440, li_4095, li_4096, li_6030, li_16384, li_20160, zl0, zl1, zl2, zl3, zl4, ze01, ze02, ze03, ze04, ze10, ze12, ze13, ze14, ze20, ze21, ze23, ze24, ze30, ze31, ze32, ze34, ze40, ze41, ze42, ze43, zt0, zt1, zt2, zt3, zt4, zq0, zq1, zq2, zq3, zq4, it_t, it_f, Bool.true_eq_false, Bool.false_eq_true, na5, na4, na1441, na2, na10, sx_IOIA, sx_IOIS, sx_IONS, sx_IAIO, sx_IAIS, sx_IANS, sx_ISIO, sx_ISIA, sx_ISNS, sx_NSIO, sx_NSIA, sx_NSIS, r_cM_gi S1, G1.2.2.2.1, z, r_p437 S1, w]
      exact ok_ret ⟨G1.sL, Z1.rn.trans RNm.sL, sL_at, trivial⟩
theorem y_named (X : TR tx n h0) (G : GS tx n h0 h s) {so cnt : Nat} (N : NY tx n M so cnt h) (hb : nmB so + cnt ≤ 29) : YP n h0 (m_X12_named 412 (nI (nmB so)) (nI cnt) h) (sOf tx n M so cnt s) (fun r h1 => RI h h1 ∧ r = nI 0) (fun a r h1 => GS tx n h0 h1 a.2 ∧ RZ h h1 ∧ r = nI a.1 ∧ h_iv h1 412 37 = nI s ∧ a.1 < cnt) := by
  have g1 := G.1
  obtain ⟨r, h1, e1, hh⟩ := y_name X G
  have z : (nI 0 = nI 0) = True := eq_self _
  have z1 : (nI 1 = nI 0) = False := eq_false (by decide)
  unfold sOf
  simp (maxSteps := 3000000) (disch := first | assumption | omega) only [m_X12_named, bO_v, bR_v, bX_l, bX_r, bC_l, bC_r, aLet_v, nI_add, pk_mul, dvI_n, rmI_n, iMax_n, iMin_n, zO_0, zO_1, li_0, li_1, li_2, li_3, li_4, li_5, li_6, li_7, li_8, li_9, li_10, li_12, li_14, li_15, li_16, li_18, li_19, li_20, li_22, li_23, li_24, li_26, li_29, li_30, li_31, li_32, li_36, li_38, li_48, li_50, li_57, li_58, li_59, li_60, li_63, li_97, li_99, li_120, li_122, li_144, li_168, li_194, li_240, li_255, li_284, li_299, li_603, li_999, li_1200, li_1440, li_4095, li_4096, li_6030, li_16384, li_20160, zl0, zl1, zl2, zl3, zl4, ze01, ze02, ze03, ze04, ze10, ze12, ze13, ze14, ze20, ze21, ze23, ze24, ze30, ze31, ze32, ze34, ze40, ze41, ze42, ze43, zt0, zt1, zt2, zt3, zt4, zq0, zq1, zq2, zq3, zq4, it_t, it_f, Bool.true_eq_false, Bool.false_eq_true, na5, na4, na1441, na2, na10, sx_IOIA, sx_IOIS, sx_IONS, sx_IAIO, sx_IAIS, sx_IANS, sx_ISIO, sx_ISIA, sx_ISNS, sx_NSIO, sx_NSIA, sx_NSIS, r_cM_gS g1, e1]
  cases nd : nmd tx n s
  · rw [nd, if_pos rfl] at hh
    obtain ⟨b1, r1, rfl⟩ := hh
    rw [if_pos rfl]
    simp (maxSteps := 3000000) (disch := first | assumption | omega) only [bO_v, bR_v, bX_l, bX_r, bC_l, bC_r, aJ_v, aLet_v, nI_add, pk_mul, dvI_n, rmI_n, iMax_n, iMin_n, zO_0, zO_1, li_0, li_1, li_2, li_3, li_4, li_5, li_6, li_7, li_8, li_9, li_10, li_12, li_14, li_15, li_16, li_18, li_19, li_20, li_22, li_23, li_24, li_26, li_29, li_30, li_31, li_32, li_36, li_38, li_48, li_50, li_57, li_58, li_59, li_60, li_63, li_97, li_99, li_120, li_122, li_144, li_168, li_194, li_240, li_255, li_284, li_299, li_603, li_999, li_1200, li_1440, li_4095, li_4096, li_6030, li_16384, li_20160, zl0, zl1, zl2, zl3, zl4, ze01, ze02, ze03, ze04, ze10, ze12, ze13, ze14, ze20, ze21, ze23, ze24, ze30, ze31, ze32, ze34, ze40, ze41, ze42, ze43, zt0, zt1, zt2, zt3, zt4, zq0, zq1, zq2, zq3, zq4, it_t, it_f, Bool.true_eq_false, Bool.false_eq_true, na5, na4, na1441, na2, na10, sx_IOIA, sx_IOIS, sx_IONS, sx_IAIO, sx_IAIS, sx_IANS, sx_ISIO, sx_ISIA, sx_ISNS, sx_NSIO, sx_NSIA, sx_NSIS, r_cM_gS b1.1, y_place b1.1 hb, r_cM_gi b1.1, b1.2.2.2.1, z1]
    exact ok_ret ⟨b1, r1, rfl⟩
  · rw [nd, if_neg (by decide)] at hh
    obtain ⟨G1, Z1, rfl, a37⟩ := hh
    have S1 := G1.1
    have N1 : NY tx n M so cnt h1 := fun i hi => ⟨(N i hi).1, by rw [Z1.2.2.2.2.2.2 _ _ (by omega)]; exact (N i hi).2⟩
    have pl := y_place S1 (b := nmB so) (cnt := cnt) hb (v := lN (cd tx n s))
    rw [y_fnd N1 nd] at pl
    have fl : fnd tx n M so cnt s ≤ cnt := fa_first_le _ _
    rw [if_neg (by decide)]
    by_cases c : fnd tx n M so cnt s < cnt
    · rw [if_pos c] at pl ⊢
      simp (maxSteps := 3000000) (disch := first | assumption | omega) only [bO_v, bR_v, bX_l, bX_r, bC_l, bC_r, aJ_v, aLet_v, nI_add, pk_mul, dvI_n, rmI_n, iMax_n, iMin_n, zO_0, zO_1, li_0, li_1, li_2, li_3, li_4, li_5, li_6, li_7, li_8, li_9, li_10, li_12, li_14, li_15, li_16, li_18, li_19, li_20, li_22, li_23, li_24, li_26, li_29, li_30, li_31, li_32, li_36, li_38, li_48, li_50, li_57, li_58, li_59, li_60, li_63, li_97, li_99, li_120, li_122, li_144, li_168, li_194, li_240, li_255, li_284, li_299, li_603, li_999, li_1200, li_1440, li_4095, li_4096, li_6030, li_16384, li_20160, zl0, zl1, zl2, zl3, zl4, ze01, ze02, ze03, ze04, ze10, ze12, ze13, ze14, ze20, ze21, ze23, ze24, ze30, ze31, ze32, ze34, ze40, ze41, ze42, ze43, zt0, zt1, zt2, zt3, zt4, zq0, zq1, zq2, zq3, zq4, it_t, it_f, Bool.true_eq_false, Bool.false_eq_true, na5, na4, na1441, na2, na10, sx_IOIA, sx_IOIS, sx_IONS, sx_IAIO, sx_IAIS, sx_IANS, sx_ISIO, sx_ISIA, sx_ISNS, sx_NSIO, sx_NSIA, sx_NSIS, r_cM_gS S1, pl, r_cM_gi S1, G1.2.2.2.1, z, if_neg (ne_m1 (k := fnd tx n M so cnt s) (by omega))]
      exact ok_ret ⟨G1, Z1, rfl, a37, c⟩
    · rw [if_neg c] at pl ⊢
      obtain ⟨p, p1, p2, p3⟩ := G1.2.2.2.2.1
      obtain ⟨h3, e3, b3, F3⟩ := y_fault (n := n) S1 G1.2.1 G1.2.2.1 G1.2.2.2.1 p1 p2 (c := 4) (w := s)
      simp (maxSteps := 3000000) (disch := first | assumption | omega) only [bO_v, bR_v, bX_l, bX_r, bC_l, bC_r, aJ_v, aLet_v, nI_add, pk_mul, dvI_n, rmI_n, iMax_n, iMin_n, zO_0, zO_1, li_0, li_1, li_2, li_3, li_4, li_5, li_6, li_7, li_8, li_9, li_10, li_12, li_14, li_15, li_16, li_18, li_19, li_20, li_22, li_23, li_24, li_26, li_29, li_30, li_31, li_32, li_36, li_38, li_48, li_50, li_57, li_58, li_59, li_60, li_63, li_97, li_99, li_120, li_122, li_144, li_168, li_194, li_240, li_255, li_284, li_299, li_603, li_999, li_1200, li_1440, li_4095, li_4096, li_6030, li_16384, li_20160, zl0, zl1, zl2, zl3, zl4, ze01, ze02, ze03, ze04, ze10, ze12, ze13, ze14, ze20, ze21, ze23, ze24, ze30, ze31, ze32, ze34, ze40, ze41, ze42, ze43, zt0, zt1, zt2, zt3, zt4, zq0, zq1, zq2, zq3, zq4, it_t, it_f, Bool.true_eq_false, Bool.false_eq_true, na5, na4, na1441, na2, na10, sx_IOIA, sx_IOIS, sx_IONS, sx_IAIO, sx_IAIS, sx_IANS, sx_ISIO, sx_ISIA, sx_ISNS, sx_NSIO, sx_NSIA, sx_NSIS, r_cM_gS S1, pl, r_cM_gi S1, G1.2.2.2.1, z, if_pos m1_lt, a37, e3, r_cM_gi b3.1, b3.2.2.2.1, z1]
      exact ok_ret ⟨b3, (Z1.trans (RZ.fx F3 (fun o k r => r))).ri, rfl⟩
def skv (v : Int64) : Nat := if v = 1758489 then 1 else if v = 67154904 then 2 else if v = 7010310 then 4 else if v = 10364495 then 8 else 0
theorem y_skillOf (v : Int64) : m_X12_skillOf v h = some (nI (skv v), h) := by
  simp (maxSteps := 3000000) (disch := first | assumption | omega) only [m_X12_skillOf, bO_v, bR_v, bX_l, bX_r, bC_l, bC_r, aJ_v, aLet_v, nI_add, pk_mul, dvI_n, rmI_n, iMax_n, iMin_n, zO_0, zO_1, li_0, li_1, li_2, li_3, li_4, li_5, li_6, li_7, li_8, li_9, li_10, li_12, li_14, li_15, li_16, li_18, li_19, li_20, li_22, li_23, li_24, li_26, li_29, li_30, li_31, li_32, li_36, li_38, li_48, li_50, li_57, li_58, li_59, li_60, li_63, li_97, li_99, li_120, li_122, li_144, li_168, li_194, li_240, li_255, li_284, li_299, li_603, li_999, li_1200, li_1440, li_4095, li_4096, li_6030, li_16384, li_20160, zl0, zl1, zl2, zl3, zl4, ze01, ze02, ze03, ze04, ze10, ze12, ze13, ze14, ze20, ze21, ze23, ze24, ze30, ze31, ze32, ze34, ze40, ze41, ze42, ze43, zt0, zt1, zt2, zt3, zt4, zq0, zq1, zq2, zq3, zq4, it_t, it_f, Bool.true_eq_false, Bool.false_eq_true, na5, na4, na1441, na2, na10, sx_IOIA, sx_IOIS, sx_IONS, sx_IAIO, sx_IAIS, sx_IANS, sx_ISIO, sx_ISIA, sx_ISNS, sx_NSIO, sx_NSIA, sx_NSIS, lgc_eqn]
  unfold skv
  by_cases c1 : v = 1758489
  · rw [if_pos c1, if_pos c1]
  · rw [if_neg c1, if_neg c1]
    by_cases c2 : v = 67154904
    · rw [if_pos c2, if_pos c2]
    · rw [if_neg c2, if_neg c2]
      by_cases c3 : v = 7010310
      · rw [if_pos c3, if_pos c3]
      · rw [if_neg c3, if_neg c3]
        by_cases c4 : v = 10364495
        · rw [if_pos c4, if_pos c4]
        · rw [if_neg c4, if_neg c4]
theorem skv_0 : skv 0 = 0 := by decide
theorem cd_is (hn : nmd tx n s = true) {c : Nat} (hc : c < 2 ^ 63) {w : Int64} (hw : w = lN c) : (lN (cd tx n s) = w) = (isWd tx n s c = true) := by
  unfold isWd
  rw [hn, Bool.true_and, hw, decide_eq_true_iff]
  exact propext (fb_lN_inj (cd_63 (of_decide_eq_true hn).2) hc)
theorem skv_cd (hn : nmd tx n s = true) : skv (lN (cd tx n s)) = sSkill tx n s := by
  unfold skv sSkill
  simp only [cd_is hn (c := 1758489) (w := 1758489) (by decide) rfl, cd_is hn (c := 67154904) (w := 67154904) (by decide) rfl, cd_is hn (c := 7010310) (w := 7010310) (by decide) rfl, cd_is hn (c := 10364495) (w := 10364495) (by decide) rfl]
theorem sSkill_no (hn : nmd tx n s = false) : sSkill tx n s = 0 ∧ ∀ c, isWd tx n s c = false := by
  have z : ∀ w, isWd tx n s w = false := fun w => by unfold isWd; rw [hn]; rfl
  exact ⟨by unfold sSkill; rw [z, z, z, z]; rfl, z⟩
theorem y_says (X : TR tx n h0) (G : GS tx n h0 h s) {c : Nat} (hc1 : 1 ≤ c) (hc2 : c < 2 ^ 63) {w : Int64} (hw : w = lN c) : OK (m_X12_says 412 w h) (fun r h1 => RZ h h1 ∧ r = b2i (isWd tx n s c) ∧ GS tx n h0 h1 (if isWd tx n s c = true then adv tx n s else s) ∧ h_iv h1 412 30 = nI (if isWd tx n s c = true then s + wle tx n s else s)) := by
  have G0 := G
  obtain ⟨g1, g2, g3, g4, ⟨p, p1, p2, p3⟩, g6, g7⟩ := G
  have X0 := X.ry g2
  have sl := G0.le
  have z : (nI 0 = nI 0) = True := eq_self _
  have z1 : (nI 1 = nI 0) = False := eq_false (by decide)
  have wl : wle tx n s ≤ n - s := run_le
  obtain ⟨r, h1, e1, rfl, F1, a30, a37⟩ := y_word g1 X0 p2 p1 p3
  have S1 := F1.sh g1
  have Z1 : RZ h h1 := RZ.fx F1 (fun o k r => by unfold RSx; omega)
  have c33 : h_iv h1 412 33 = nI 0 := by rw [F1.iv (by omega)]; exact g4
  have wi := wv_is (tx := tx) sl.1 hc1 hc2
  rw [← hw] at wi
  cases e : isWd tx n s c
  · rw [e] at wi
    have nw : ¬ wv tx n s = w := fun q => by have := wi.mp q; cases this
    have S2 : Sh (h_si h1 412 30 (nI p)) := S1.si _ _ _
    have F2 : Fx (fun o k => o = 412 ∧ (k = 30 ∨ k = 37)) h (h_si h1 412 30 (nI p)) := F1.trans (Fx.si ⟨rfl, Or.inl rfl⟩)
    have X2 := X0.ry (RY.fx F2 (fun o k r => by unfold RX; omega))
    obtain ⟨_, h3, e3, F3, a3⟩ := y_blanks S2 X2 (p := p) si_at p1
    rw [p3] at a3
    have S3 := F3.sh S2
    simp (maxSteps := 3000000) (disch := first | assumption | omega) only [m_X12_says, bO_v, bR_v, bX_l, bX_r, bC_l, bC_r, aJ_v, aLet_v, nI_add, pk_mul, dvI_n, rmI_n, iMax_n, iMin_n, zO_0, zO_1, li_0, li_1, li_2, li_3, li_4, li_5, li_6, li_7, li_8, li_9, li_10, li_12, li_14, li_15, li_16, li_18, li_19, li_20, li_22, li_23, li_24, li_26, li_29, li_30, li_31, li_32, li_36, li_38, li_48, li_50, li_57, li_58, li_59, li_60, li_63, li_97, li_99, li_120, li_122, li_144, li_168, li_194, li_240, li_255, li_284, li_299, li_603, li_999, li_1200, li_1440, li_4095, li_4096, li_6030, li_16384, li_20160, zl0, zl1, zl2, zl3, zl4, ze01, ze02, ze03, ze04, ze10, ze12, ze13, ze14, ze20, ze21, ze23, ze24, ze30, ze31, ze32, ze34, ze40, ze41, ze42, ze43, zt0, zt1, zt2, zt3, zt4, zq0, zq1, zq2, zq3, zq4, it_t, it_f, Bool.true_eq_false, Bool.false_eq_true, na5, na4, na1441, na2, na10, sx_IOIA, sx_IOIS, sx_IONS, sx_IAIO, sx_IAIS, sx_IANS, sx_ISIO, sx_ISIA, sx_ISNS, sx_NSIO, sx_NSIA, sx_NSIS, r_cM_gi g1, p2, r_cM_gS g1, e1, lgc_eqn, if_neg nw, z, r_cM_pi S1, r_cM_gS S2, e3]
    have F3' : Fx (fun o k => o = 412 ∧ (k = 30 ∨ k = 37)) h h3 := F2.trans (F3.mono (fun o k r => ⟨r.1, Or.inl r.2⟩))
    have Z3 : RZ h h3 := RZ.fx F3' (fun o k r => by unfold RSx; omega)
    exact ok_ret ⟨Z3, rfl, G0.rz Z3 ⟨F3'.iv (by omega), F3'.iv (by omega), F3'.iv (by omega)⟩ ⟨s, sl.1, a3, sl.2⟩, a3⟩
  · rw [e] at wi
    have nw : wv tx n s = w := wi.mpr rfl
    simp (maxSteps := 3000000) (disch := first | assumption | omega) only [m_X12_says, bO_v, bR_v, bX_l, bX_r, bC_l, bC_r, aJ_v, aLet_v, nI_add, pk_mul, dvI_n, rmI_n, iMax_n, iMin_n, zO_0, zO_1, li_0, li_1, li_2, li_3, li_4, li_5, li_6, li_7, li_8, li_9, li_10, li_12, li_14, li_15, li_16, li_18, li_19, li_20, li_22, li_23, li_24, li_26, li_29, li_30, li_31, li_32, li_36, li_38, li_48, li_50, li_57, li_58, li_59, li_60, li_63, li_97, li_99, li_120, li_122, li_144, li_168, li_194, li_240, li_255, li_284, li_299, li_603, li_999, li_1200, li_1440, li_4095, li_4096, li_6030, li_16384, li_20160, zl0, zl1, zl2, zl3, zl4, ze01, ze02, ze03, ze04, ze10, ze12, ze13, ze14, ze20, ze21, ze23, ze24, ze30, ze31, ze32, ze34, ze40, ze41, ze42, ze43, zt0, zt1, zt2, zt3, zt4, zq0, zq1, zq2, zq3, zq4, it_t, it_f, Bool.true_eq_false, Bool.false_eq_true, na5, na4, na1441, na2, na10, sx_IOIA, sx_IOIS, sx_IONS, sx_IAIO, sx_IAIS, sx_IANS, sx_ISIO, sx_ISIA, sx_ISNS, sx_NSIO, sx_NSIA, sx_NSIS, r_cM_gi g1, p2, r_cM_gS g1, e1, lgc_eqn, if_pos nw, z1, r_cM_gi S1, c33, z]
    refine ok_ret ⟨Z1, rfl, ?_, a30⟩
    have t1 : tok tx n s = 1 := (of_decide_eq_true (show nmd tx n s = true from (Bool.and_eq_true_iff.mp e).1)).1
    refine G0.rz Z1 ⟨F1.iv (by omega), F1.iv (by omega), F1.iv (by omega)⟩ ⟨s + wle tx n s, by omega, a30, ?_⟩
    unfold adv
    rw [nxt1 t1]
theorem y_begins (X : TR tx n h0) (G : GS tx n h0 h s) {c cnt most : Nat} (hc1 : 1 ≤ c) (hc2 : c < 2 ^ 63) {w : Int64} (hw : w = lN c) (hc : cnt < 1000) (hm : most < 1000) : OK (m_X12_begins 412 w (nI cnt) (nI most) h) (fun r h1 => if isWd tx n s c = false then r = nI 0 ∧ GS tx n h0 h1 s ∧ RZ h h1 else if cnt = most then r = nI 0 ∧ BE n h0 h1 (5, s) else r = nI 1 ∧ GS tx n h0 h1 (adv tx n s) ∧ RZ h h1) := by
  have G0 := G
  obtain ⟨g1, g2, g3, g4, ⟨p, p1, p2, p3⟩, g6, g7⟩ := G
  have X0 := X.ry g2
  have sl := G0.le
  have z : (nI 0 = nI 0) = True := eq_self _
  have z1 : (nI 1 = nI 0) = False := eq_false (by decide)
  obtain ⟨_, h1, e1, F1, a1⟩ := y_blanks g1 X0 p2 p1
  rw [p3] at a1
  have Z1 : RZ h h1 := RZ.fx F1 (fun o k r => by unfold RSx; omega)
  have G1 : GS tx n h0 h1 s := G0.rz Z1 ⟨F1.iv (by omega), F1.iv (by omega), F1.iv (by omega)⟩ ⟨s, sl.1, a1, sl.2⟩
  have S1 := G1.1
  obtain ⟨r, h3, e3, Z3, rfl, G3, -⟩ := y_says X G1 hc1 hc2 hw
  have S3 := G3.1
  cases e : isWd tx n s c
  · rw [e, if_neg (by decide)] at G3
    rw [e] at e3
    have b0 : b2i false = nI 0 := rfl
    rw [b0] at e3
    simp (maxSteps := 3000000) (disch := first | assumption | omega) only [m_X12_begins, bO_v, bR_v, bX_l, bX_r, bC_l, bC_r, aJ_v, aLet_v, nI_add, pk_mul, dvI_n, rmI_n, iMax_n, iMin_n, zO_0, zO_1, li_0, li_1, li_2, li_3, li_4, li_5, li_6, li_7, li_8, li_9, li_10, li_12, li_14, li_15, li_16, li_18, li_19, li_20, li_22, li_23, li_24, li_26, li_29, li_30, li_31, li_32, li_36, li_38, li_48, li_50, li_57, li_58, li_59, li_60, li_63, li_97, li_99, li_120, li_122, li_144, li_168, li_194, li_240, li_255, li_284, li_299, li_603, li_999, li_1200, li_1440, li_4095, li_4096, li_6030, li_16384, li_20160, zl0, zl1, zl2, zl3, zl4, ze01, ze02, ze03, ze04, ze10, ze12, ze13, ze14, ze20, ze21, ze23, ze24, ze30, ze31, ze32, ze34, ze40, ze41, ze42, ze43, zt0, zt1, zt2, zt3, zt4, zq0, zq1, zq2, zq3, zq4, it_t, it_f, Bool.true_eq_false, Bool.false_eq_true, na5, na4, na1441, na2, na10, sx_IOIA, sx_IOIS, sx_IONS, sx_IAIO, sx_IAIS, sx_IANS, sx_ISIO, sx_ISIA, sx_ISNS, sx_NSIO, sx_NSIA, sx_NSIS, r_cM_gS g1, e1, r_cM_gi S1, a1, G1.2.2.2.1, z, r_cM_gS S1, e3]
    exact ok_ret ⟨rfl, G3, Z1.trans Z3⟩
  · rw [e, if_pos rfl] at G3
    rw [e] at e3
    have b1 : b2i true = nI 1 := rfl
    rw [b1] at e3
    by_cases cm : cnt = most
    · obtain ⟨p', q1, q2, q3⟩ := G3.2.2.2.2.1
      obtain ⟨h4, e4, b4, F4⟩ := y_fault (n := n) S3 G3.2.1 G3.2.2.1 G3.2.2.2.1 q1 q2 (c := 5) (w := s)
      simp (maxSteps := 3000000) (disch := first | assumption | omega) only [m_X12_begins, bO_v, bR_v, bX_l, bX_r, bC_l, bC_r, aJ_v, aLet_v, nI_add, pk_mul, dvI_n, rmI_n, iMax_n, iMin_n, zO_0, zO_1, li_0, li_1, li_2, li_3, li_4, li_5, li_6, li_7, li_8, li_9, li_10, li_12, li_14, li_15, li_16, li_18, li_19, li_20, li_22, li_23, li_24, li_26, li_29, li_30, li_31, li_32, li_36, li_38, li_48, li_50, li_57, li_58, li_59, li_60, li_63, li_97, li_99, li_120, li_122, li_144, li_168, li_194, li_240, li_255, li_284, li_299, li_603, li_999, li_1200, li_1440, li_4095, li_4096, li_6030, li_16384, li_20160, zl0, zl1, zl2, zl3, zl4, ze01, ze02, ze03, ze04, ze10, ze12, ze13, ze14, ze20, ze21, ze23, ze24, ze30, ze31, ze32, ze34, ze40, ze41, ze42, ze43, zt0, zt1, zt2, zt3, zt4, zq0, zq1, zq2, zq3, zq4, it_t, it_f, Bool.true_eq_false, Bool.false_eq_true, na5, na4, na1441, na2, na10, sx_IOIA, sx_IOIS, sx_IONS, sx_IAIO, sx_IAIS, sx_IANS, sx_ISIO, sx_ISIA, sx_ISNS, sx_NSIO, sx_NSIA, sx_NSIS, r_cM_gS g1, e1, r_cM_gi S1, a1, G1.2.2.2.1, z, r_cM_gS S1, e3, z1, nI_eq, eq_self, if_pos cm, r_cM_gS S3, e4, r_cM_gi b4.1, b4.2.2.2.1]
      exact ok_ret ⟨rfl, b4⟩
    · simp (maxSteps := 3000000) (disch := first | assumption | omega) only [m_X12_begins, bO_v, bR_v, bX_l, bX_r, bC_l, bC_r, aJ_v, aLet_v, nI_add, pk_mul, dvI_n, rmI_n, iMax_n, iMin_n, zO_0, zO_1, li_0, li_1, li_2, li_3, li_4, li_5, li_6, li_7, li_8, li_9, li_10, li_12, li_14, li_15, li_16, li_18, li_19, li_20, li_22, li_23, li_24, li_26, li_29, li_30, li_31, li_32, li_36, li_38, li_48, li_50, li_57, li_58, li_59, li_60, li_63, li_97, li_99, li_120, li_122, li_144, li_168, li_194, li_240, li_255, li_284, li_299, li_603, li_999, li_1200, li_1440, li_4095, li_4096, li_6030, li_16384, li_20160, zl0, zl1, zl2, zl3, zl4, ze01, ze02, ze03, ze04, ze10, ze12, ze13, ze14, ze20, ze21, ze23, ze24, ze30, ze31, ze32, ze34, ze40, ze41, ze42, ze43, zt0, zt1, zt2, zt3, zt4, zq0, zq1, zq2, zq3, zq4, it_t, it_f, Bool.true_eq_false, Bool.false_eq_true, na5, na4, na1441, na2, na10, sx_IOIA, sx_IOIS, sx_IONS, sx_IAIO, sx_IAIS, sx_IANS, sx_ISIO, sx_ISIA, sx_ISNS, sx_NSIO, sx_NSIA, sx_NSIS, r_cM_gS g1, e1, r_cM_gi S1, a1, G1.2.2.2.1, z, r_cM_gS S1, e3, z1, nI_eq, eq_self, if_neg cm, r_cM_gi S3, G3.2.2.2.1]
      exact ok_ret ⟨rfl, G3, Z1.trans Z3⟩
theorem y_beginsB (X : TR tx n h0) {e : ER} (G : BE n h0 h e) {x y : Int32} {w : Int64} : OK (m_X12_begins 412 w x y h) (fun r h1 => r = nI 0 ∧ BE n h0 h1 e) := by
  obtain ⟨g1, g2, g3, g4, ⟨p, p1, p2⟩, g6, g7⟩ := G
  have X0 := X.ry g2
  have z1 : (nI 1 = nI 0) = False := eq_false (by decide)
  obtain ⟨_, h1, e1, F1, a1⟩ := y_blanks g1 X0 p2 p1
  have Z1 : RZ h h1 := RZ.fx F1 (fun o k r => by unfold RSx; omega)
  have S1 := F1.sh g1
  have c33 : h_iv h1 412 33 = nI 1 := by rw [F1.iv (by omega)]; exact g4
  simp (maxSteps := 3000000) (disch := first | assumption | omega) only [m_X12_begins, bO_v, bR_v, bX_l, bX_r, bC_l, bC_r, aJ_v, aLet_v, nI_add, pk_mul, dvI_n, rmI_n, iMax_n, iMin_n, zO_0, zO_1, li_0, li_1, li_2, li_3, li_4, li_5, li_6, li_7, li_8, li_9, li_10, li_12, li_14, li_15, li_16, li_18, li_19, li_20, li_22, li_23, li_24, li_26, li_29, li_30, li_31, li_32, li_36, li_38, li_48, li_50, li_57, li_58, li_59, li_60, li_63, li_97, li_99, li_120, li_122, li_144, li_168, li_194, li_240, li_255, li_284, li_299, li_603, li_999, li_1200, li_1440, li_4095, li_4096, li_6030, li_16384, li_20160, zl0, zl1, zl2, zl3, zl4, ze01, ze02, ze03, ze04, ze10, ze12, ze13, ze14, ze20, ze21, ze23, ze24, ze30, ze31, ze32, ze34, ze40, ze41, ze42, ze43, zt0, zt1, zt2, zt3, zt4, zq0, zq1, zq2, zq3, zq4, it_t, it_f, Bool.true_eq_false, Bool.false_eq_true, na5, na4, na1441, na2, na10, sx_IOIA, sx_IOIS, sx_IONS, sx_IAIO, sx_IAIS, sx_IANS, sx_ISIO, sx_ISIA, sx_ISNS, sx_NSIO, sx_NSIA, sx_NSIS, r_cM_gS g1, e1, r_cM_gi S1, a1, c33, z1]
  exact ok_ret ⟨rfl, S1, g2.trans Z1.ry, g3.rz Z1, c33, ⟨_, (skp_le p1).2, a1⟩, by rw [F1.iv (by omega)]; exact g6, by rw [F1.iv (by omega)]; exact g7⟩
end
