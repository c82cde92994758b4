/-! the class's reader: names -/
theorem wide_n {c : Nat} (h : c < 2147483648) : (nI c).toInt64 = lN c := Int64.toInt_inj.mp (by rw [Int32.toInt_toInt64, nI_toInt h, lN_ti (by omega), if_pos (by omega)])
theorem lN_of (c : Nat) : lN c = Int64.ofNat c := rfl
/-- a name as the class keeps it; none if it is too long -/
def nm32 (tx : Nat → Nat) (n s : Nat) : Nat := enc 32 (wd tx s) (wle tx n s)
section
variable {h h0 : aH} {tx : Nat → Nat} {n Q s : Nat}
theorem wd_le {k m : Nat} (hm : m ≤ wle tx n s) (hk : k < m) : wd tx s k ≤ 26 := (wd_in (tx := tx) (n := n) (s := s) (k := k) (by omega)).2
theorem nm32_lt (h : wle tx n s ≤ 8) : nm32 tx n s < 1099511627776 := by
  have h1 := enc_lt (b := 32) (by omega) (f := wd tx s) (n := wle tx n s) (fun k hk => (wd_in hk).2)
  have h2 : 32 ^ wle tx n s ≤ 32 ^ 8 := Nat.pow_le_pow_right (by decide) h
  have h3 : (32 : Nat) ^ 8 = 1099511627776 := by decide
  unfold nm32
  omega
theorem cd_lt (h : wle tx n s ≤ 8) : cd tx n s < 282429536481 := by
  have h1 := enc_lt (b := 27) (by omega) (f := wd tx s) (n := wle tx n s) (fun k hk => (wd_in hk).2)
  have h2 : 27 ^ wle tx n s ≤ 27 ^ 8 := Nat.pow_le_pow_right (by decide) h
  have h3 : (27 : Nat) ^ 8 = 282429536481 := by decide
  unfold cd
  omega
/-- the two ways of keeping a name tell the same names apart -/
theorem nm32_cd {s' : Nat} : nm32 tx n s = nm32 tx n s' ↔ cd tx n s = cd tx n s' := by
  have f1 : ∀ k, k < wle tx n s → 1 ≤ wd tx s k ∧ wd tx s k ≤ 26 := fun k hk => wd_in hk
  have f2 : ∀ k, k < wle tx n s' → 1 ≤ wd tx s' k ∧ wd tx s' k ≤ 26 := fun k hk => wd_in hk
  constructor
  · intro e
    obtain ⟨e1, e2⟩ := enc_inj (b := 32) (by omega) f1 f2 e
    unfold cd
    rw [← e1]
    exact enc_cong e2
  · intro e
    obtain ⟨e1, e2⟩ := enc_inj (b := 27) (by omega) f1 f2 e
    unfold nm32
    rw [← e1]
    exact enc_cong e2
theorem k_nameIn (X : TX tx n h0) (hQ : Q ∈ plL) (C : CS tx n Q h0 h s) (t1 : tok tx n s = 1) : m_X9_nameIn 3 (nI s) (nI (nxt tx n s)) h = some (if wle tx n s ≤ 8 then lN (nm32 tx n s) else -1, h) := by
  obtain ⟨c1, c2, c3, c4, ⟨l3, l4, l5⟩, c6, c7⟩ := C
  obtain ⟨s1, s2⟩ := tok1.mp t1
  have X2 := X.kx c2 hQ
  have x1 := X.1
  have en := nxt1 t1
  have wl : wle tx n s ≤ n - s := run_le
  have sub : nI (nxt tx n s) - nI s = nI (wle tx n s) := by rw [en, pk_sub (by omega), Nat.add_sub_cancel_left]
  simp (maxSteps := 3000000) (disch := first | assumption | omega) only [m_X9_nameIn, bO_v, bR_v, bX_l, bX_r, bC_l, bC_r, aLet_v, nI_add, pk_mul, dvI_n, rmI_n, iMax_n, iMin_n, zO_0, zO_1, li_0, li_1, li_2, li_3, li_4, li_5, li_6, li_7, li_8, li_9, li_10, li_12, li_14, li_15, li_16, li_18, li_19, li_20, li_22, li_23, li_24, li_26, li_29, li_30, li_31, li_32, li_36, li_38, li_48, li_50, li_57, li_58, li_59, li_60, li_63, li_97, li_99, li_120, li_122, li_144, li_168, li_194, li_240, li_255, li_284, li_299, li_603, li_999, li_1200, li_1440, li_4095, li_4096, li_6030, li_16384, li_20160, zl0, zl1, zl2, zl3, zl4, ze01, ze02, ze03, ze04, ze10, ze12, ze13, ze14, ze20, ze21, ze23, ze24, ze30, ze31, ze32, ze34, ze40, ze41, ze42, ze43, zt0, zt1, zt2, zt3, zt4, zq0, zq1, zq2, zq3, zq4, it_t, it_f, Bool.true_eq_false, Bool.false_eq_true, na5, na4, na1441, na2, na10, sx_IOIA, sx_IOIS, sx_IONS, sx_IAIO, sx_IAIS, sx_IANS, sx_ISIO, sx_ISIA, sx_ISNS, sx_NSIO, sx_NSIA, sx_NSIS, sub, nI_leI, aJ_v]
  by_cases c8 : wle tx n s ≤ 8
  · rw [if_pos c8, if_pos c8]
    refine aL2_run (R := fun o => o = some (lN (nm32 tx n s), h)) (fun m s1 s2 g => g = h ∧ ∃ j, j ≤ wle tx n s ∧ m = wle tx n s - j ∧ s2 = nI (s + j) ∧ s1 = lN (enc 32 (wd tx s) j)) ⟨rfl, 0, Nat.zero_le _, rfl, rfl, rfl⟩ (by omega) ?_
    rintro rec m s1 s2 g ⟨rfl, j, hj, rfl, rfl, rfl⟩ ih
    by_cases hlt : j < wle tx n s
    · obtain ⟨c9, tb⟩ := X2.2 (s + j) (by omega)
      have lt := of_decide_eq_true (run_in (tx := tx) (q := isLt) (n := n) (p := s) (k := j) hlt)
      rw [byt_n (by omega)] at tb
      have w1 := wd_in (tx := tx) (n := n) (s := s) (k := j) hlt
      have wdv : nI (tx (s + j)) - nI 97 + nI 1 = nI (wd tx s j) := by
        rw [pk_sub (by omega), nI_add]
        unfold wd
        congr 1
        omega
      have el := enc_lt (b := 32) (by omega) (f := wd tx s) (n := j) (fun k hk => wd_le hj hk)
      have ep : 32 ^ j ≤ 32 ^ 8 := Nat.pow_le_pow_right (by decide) (by omega)
      have e8 : (32 : Nat) ^ 8 = 1099511627776 := by decide
      have st : lShl (lN (enc 32 (wd tx s) j)) (nI 5) ||| (nI (wd tx s j)).toInt64 = lN (enc 32 (wd tx s) (j + 1)) := by
        unfold lShl
        have p5 : (2 : Nat) ^ 5 = 32 := by decide
        have e1 : lN (enc 32 (wd tx s) j * 2 ^ 5) ||| lN (wd tx s j) = lN (enc 32 (wd tx s) j * 2 ^ 5 + wd tx s j) := g_or (k := 5) rfl (by omega) (by omega)
        rw [wb_shl _ (by omega), wide_n (by omega), e1, enc, p5, Nat.mul_comm]
      simp (maxSteps := 3000000) (disch := first | assumption | omega) only [m_X9_nameIn_L17, bO_v, bR_v, bX_l, bX_r, bC_l, bC_r, aLet_v, nI_add, pk_mul, dvI_n, rmI_n, iMax_n, iMin_n, zO_0, zO_1, li_0, li_1, li_2, li_3, li_4, li_5, li_6, li_7, li_8, li_9, li_10, li_12, li_14, li_15, li_16, li_18, li_19, li_20, li_22, li_23, li_24, li_26, li_29, li_30, li_31, li_32, li_36, li_38, li_48, li_50, li_57, li_58, li_59, li_60, li_63, li_97, li_99, li_120, li_122, li_144, li_168, li_194, li_240, li_255, li_284, li_299, li_603, li_999, li_1200, li_1440, li_4095, li_4096, li_6030, li_16384, li_20160, zl0, zl1, zl2, zl3, zl4, ze01, ze02, ze03, ze04, ze10, ze12, ze13, ze14, ze20, ze21, ze23, ze24, ze30, ze31, ze32, ze34, ze40, ze41, ze42, ze43, zt0, zt1, zt2, zt3, zt4, zq0, zq1, zq2, zq3, zq4, it_t, it_f, Bool.true_eq_false, Bool.false_eq_true, na5, na4, na1441, na2, na10, sx_IOIA, sx_IOIS, sx_IONS, sx_IAIO, sx_IAIS, sx_IANS, sx_ISIO, sx_ISIA, sx_ISNS, sx_NSIO, sx_NSIA, sx_NSIS, en, nI_ltI, c_prtxt c1, c_ctxt_al c1, tb, wdv]
      rw [if_pos (by omega), st]
      exact ih _ _ _ _ (by omega) ⟨rfl, j + 1, hlt, rfl, rfl, rfl⟩
    · obtain rfl : j = wle tx n s := by omega
      simp (maxSteps := 3000000) (disch := first | assumption | omega) only [m_X9_nameIn_L17, bO_v, bR_v, bX_l, bX_r, bC_l, bC_r, aLet_v, nI_add, pk_mul, dvI_n, rmI_n, iMax_n, iMin_n, zO_0, zO_1, li_0, li_1, li_2, li_3, li_4, li_5, li_6, li_7, li_8, li_9, li_10, li_12, li_14, li_15, li_16, li_18, li_19, li_20, li_22, li_23, li_24, li_26, li_29, li_30, li_31, li_32, li_36, li_38, li_48, li_50, li_57, li_58, li_59, li_60, li_63, li_97, li_99, li_120, li_122, li_144, li_168, li_194, li_240, li_255, li_284, li_299, li_603, li_999, li_1200, li_1440, li_4095, li_4096, li_6030, li_16384, li_20160, zl0, zl1, zl2, zl3, zl4, ze01, ze02, ze03, ze04, ze10, ze12, ze13, ze14, ze20, ze21, ze23, ze24, ze30, ze31, ze32, ze34, ze40, ze41, ze42, ze43, zt0, zt1, zt2, zt3, zt4, zq0, zq1, zq2, zq3, zq4, it_t, it_f, Bool.true_eq_false, Bool.false_eq_true, na5, na4, na1441, na2, na10, sx_IOIA, sx_IOIS, sx_IONS, sx_IAIO, sx_IAIS, sx_IANS, sx_ISIO, sx_ISIA, sx_ISNS, sx_NSIO, sx_NSIA, sx_NSIS, en, nI_ltI]
      rw [if_neg (by omega)]
      rfl
  · rw [if_neg c8, if_neg c8]
theorem lN_ne1 {m : Nat} (h : m < 1099511627776) : ¬ lN m = (-1 : Int64) := fun e => by
  have h1 := congrArg Int64.toInt e
  rw [lN_ti (by omega), if_pos (by omega)] at h1
  have h2 : (-1 : Int64).toInt = -1 := by decide
  omega
theorem k_name (X : TX tx n h0) (hQ : Q ∈ plL) (C : CS tx n Q h0 h s) : CP Q h0 (m_X9_takesName 3 h) (if nmd tx n s = false then (.inl (1, s) : ER ⊕ Nat) else .inr (adv tx n s)) (fun s' h1 => CS tx n Q h0 h1 s' ∧ RF h h1 ∧ h_lv h1 3 8 = lN (nm32 tx n s) ∧ h_iv h1 3 6 = nI s) := by
  have t6 := tok_lt6 (tx := tx) (n := n) (s := s)
  have C0 := C
  obtain ⟨c1, c2, c3, c4, ⟨l3, l4, l5⟩, c6, c7⟩ := C
  obtain ⟨h1f, e1f, qf, -⟩ := k_fails C0 (c := 1)
  have m11 : ((-1 : Int64) = -1) = True := eq_self _
  simp (maxSteps := 3000000) (disch := first | assumption | omega) only [m_X9_takesName, bO_v, bR_v, bX_l, bX_r, bC_l, bC_r, aLet_v, nI_add, pk_mul, dvI_n, rmI_n, iMax_n, iMin_n, zO_0, zO_1, li_0, li_1, li_2, li_3, li_4, li_5, li_6, li_7, li_8, li_9, li_10, li_12, li_14, li_15, li_16, li_18, li_19, li_20, li_22, li_23, li_24, li_26, li_29, li_30, li_31, li_32, li_36, li_38, li_48, li_50, li_57, li_58, li_59, li_60, li_63, li_97, li_99, li_120, li_122, li_144, li_168, li_194, li_240, li_255, li_284, li_299, li_603, li_999, li_1200, li_1440, li_4095, li_4096, li_6030, li_16384, li_20160, zl0, zl1, zl2, zl3, zl4, ze01, ze02, ze03, ze04, ze10, ze12, ze13, ze14, ze20, ze21, ze23, ze24, ze30, ze31, ze32, ze34, ze40, ze41, ze42, ze43, zt0, zt1, zt2, zt3, zt4, zq0, zq1, zq2, zq3, zq4, it_t, it_f, Bool.true_eq_false, Bool.false_eq_true, na5, na4, na1441, na2, na10, sx_IOIA, sx_IOIS, sx_IONS, sx_IAIO, sx_IAIS, sx_IANS, sx_ISIO, sx_ISIA, sx_ISNS, sx_NSIO, sx_NSIA, sx_NSIS, c_cR_gi c1, l3, nI_eq]
  refine aJ_gen (R := fun o => CP Q h0 o (if nmd tx n s = false then (.inl (1, s) : ER ⊕ Nat) else .inr (adv tx n s)) (fun s' h1 => CS tx n Q h0 h1 s' ∧ RF h h1 ∧ h_lv h1 3 8 = lN (nm32 tx n s) ∧ h_iv h1 3 6 = nI s)) (fun k26 hk26 => ?_)
  have bad2 : nmd tx n s = false → CP Q h0 (k26 (-1 : Int64) h) (if nmd tx n s = false then (.inl (1, s) : ER ⊕ Nat) else .inr (adv tx n s)) (fun s' h1 => CS tx n Q h0 h1 s' ∧ RF h h1 ∧ h_lv h1 3 8 = lN (nm32 tx n s) ∧ h_iv h1 3 6 = nI s) := fun cc => by
    rw [hk26]
    simp (maxSteps := 3000000) (disch := first | assumption | omega) only [bO_v, bR_v, bX_l, bX_r, bC_l, bC_r, aLet_v, nI_add, pk_mul, dvI_n, rmI_n, iMax_n, iMin_n, zO_0, zO_1, li_0, li_1, li_2, li_3, li_4, li_5, li_6, li_7, li_8, li_9, li_10, li_12, li_14, li_15, li_16, li_18, li_19, li_20, li_22, li_23, li_24, li_26, li_29, li_30, li_31, li_32, li_36, li_38, li_48, li_50, li_57, li_58, li_59, li_60, li_63, li_97, li_99, li_120, li_122, li_144, li_168, li_194, li_240, li_255, li_284, li_299, li_603, li_999, li_1200, li_1440, li_4095, li_4096, li_6030, li_16384, li_20160, zl0, zl1, zl2, zl3, zl4, ze01, ze02, ze03, ze04, ze10, ze12, ze13, ze14, ze20, ze21, ze23, ze24, ze30, ze31, ze32, ze34, ze40, ze41, ze42, ze43, zt0, zt1, zt2, zt3, zt4, zq0, zq1, zq2, zq3, zq4, it_t, it_f, Bool.true_eq_false, Bool.false_eq_true, na5, na4, na1441, na2, na10, sx_IOIA, sx_IOIS, sx_IONS, sx_IAIO, sx_IAIS, sx_IANS, sx_ISIO, sx_ISIA, sx_ISNS, sx_NSIO, sx_NSIA, sx_NSIS, lgc_eqn, c_cR_gS c1, e1f]
    exact cp_inl (by rw [if_pos cc]) qf
  by_cases t1 : tok tx n s = 1
  · rw [if_pos t1]
    have kn := k_nameIn X hQ C0 t1
    simp (maxSteps := 3000000) (disch := first | assumption | omega) only [bO_v, bR_v, bX_l, bX_r, bC_l, bC_r, aLet_v, nI_add, pk_mul, dvI_n, rmI_n, iMax_n, iMin_n, zO_0, zO_1, li_0, li_1, li_2, li_3, li_4, li_5, li_6, li_7, li_8, li_9, li_10, li_12, li_14, li_15, li_16, li_18, li_19, li_20, li_22, li_23, li_24, li_26, li_29, li_30, li_31, li_32, li_36, li_38, li_48, li_50, li_57, li_58, li_59, li_60, li_63, li_97, li_99, li_120, li_122, li_144, li_168, li_194, li_240, li_255, li_284, li_299, li_603, li_999, li_1200, li_1440, li_4095, li_4096, li_6030, li_16384, li_20160, zl0, zl1, zl2, zl3, zl4, ze01, ze02, ze03, ze04, ze10, ze12, ze13, ze14, ze20, ze21, ze23, ze24, ze30, ze31, ze32, ze34, ze40, ze41, ze42, ze43, zt0, zt1, zt2, zt3, zt4, zq0, zq1, zq2, zq3, zq4, it_t, it_f, Bool.true_eq_false, Bool.false_eq_true, na5, na4, na1441, na2, na10, sx_IOIA, sx_IOIS, sx_IONS, sx_IAIO, sx_IAIS, sx_IANS, sx_ISIO, sx_ISIA, sx_ISNS, sx_NSIO, sx_NSIA, sx_NSIS, c_cR_gi c1, l4, l5, c_cR_gS c1, kn]
    by_cases c8 : wle tx n s ≤ 8
    · rw [if_pos c8]
      have nd : nmd tx n s = true := decide_eq_true ⟨t1, c8⟩
      have ne1 := lN_ne1 (nm32_lt c8)
      rw [hk26]
      have R1 : RF h (h_sL h 3 8 (lN (nm32 tx n s))) := ⟨rfl, rfl, rfl, rfl, rfl, fun _ _ _ => rfl, fun o k q => u2n (by omega)⟩
      have C1 : CS tx n Q h0 (h_sL h 3 8 (lN (nm32 tx n s))) s := C0.rf R1 ⟨rfl, rfl, rfl⟩ ⟨l3, l4, l5⟩ c6 c7.1
      obtain ⟨_, h1, e1, q1, q2, q3, q4, q5⟩ := k_takeC X hQ C1 (tok1.mp t1).1
      simp (maxSteps := 3000000) (disch := first | assumption | omega) only [bO_v, bR_v, bX_l, bX_r, bC_l, bC_r, aLet_v, nI_add, pk_mul, dvI_n, rmI_n, iMax_n, iMin_n, zO_0, zO_1, li_0, li_1, li_2, li_3, li_4, li_5, li_6, li_7, li_8, li_9, li_10, li_12, li_14, li_15, li_16, li_18, li_19, li_20, li_22, li_23, li_24, li_26, li_29, li_30, li_31, li_32, li_36, li_38, li_48, li_50, li_57, li_58, li_59, li_60, li_63, li_97, li_99, li_120, li_122, li_144, li_168, li_194, li_240, li_255, li_284, li_299, li_603, li_999, li_1200, li_1440, li_4095, li_4096, li_6030, li_16384, li_20160, zl0, zl1, zl2, zl3, zl4, ze01, ze02, ze03, ze04, ze10, ze12, ze13, ze14, ze20, ze21, ze23, ze24, ze30, ze31, ze32, ze34, ze40, ze41, ze42, ze43, zt0, zt1, zt2, zt3, zt4, zq0, zq1, zq2, zq3, zq4, it_t, it_f, Bool.true_eq_false, Bool.false_eq_true, na5, na4, na1441, na2, na10, sx_IOIA, sx_IOIS, sx_IONS, sx_IAIO, sx_IAIS, sx_IANS, sx_ISIO, sx_ISIA, sx_ISNS, sx_NSIO, sx_NSIA, sx_NSIS, lgc_eqn, if_neg ne1, c_cR_pL c1, c_cR_gS C1.1, e1]
      exact cp_inr (a := adv tx n s) (by rw [if_neg (by rw [nd]; decide)]) ⟨q1, R1.trans q2, by rw [q5]; exact sL_at, q3⟩
    · rw [if_neg c8]
      exact bad2 (decide_eq_false (fun q => c8 q.2))
  · rw [if_neg t1]
    exact bad2 (decide_eq_false (fun q => t1 q.1))
/-- the names of the first things of a sort -/
def NQ (tx : Nat → Nat) (n Q : Nat) (M : Nat → Nat → Nat) (so cnt : Nat) (h : aH) : Prop := ∀ i, i < cnt → nmd tx n (M 419 (nmB so + i)) = true ∧ h_lv h (nmO Q so i) 0 = lN (nm32 tx n (M 419 (nmB so + i)))
theorem nm_eq {s' : Nat} (h1 : nmd tx n s = true) (h2 : nmd tx n s' = true) : lN (nm32 tx n s) = lN (nm32 tx n s') ↔ cd tx n s = cd tx n s' := by
  have a1 := nm32_lt (of_decide_eq_true h1).2
  have a2 := nm32_lt (of_decide_eq_true h2).2
  rw [fb_lN_inj (by omega) (by omega)]
  exact nm32_cd
theorem k_numberOf (hS : Sh h) (hQ : Q ∈ plL) {M : Nat → Nat → Nat} {so cnt : Nat} (hso : so < 4) (hc : cnt ≤ (if so = 0 then 12 else if so = 2 then 5 else 6)) (ec : h_iv h Q (if so = 0 then 1 else if so = 1 then 5 else if so = 2 then 7 else 9) = nI cnt) (N : NQ tx n Q M so cnt h) (hn : nmd tx n s = true) :
    m_X8_numberOf Q (nI so) (lN (nm32 tx n s)) h = some (if fnd tx n M so cnt s < cnt then nI (fnd tx n M so cnt s) else -nI 1, h) := by
  simp (maxSteps := 3000000) (disch := first | assumption | omega) only [m_X8_numberOf, bO_v, bR_v, bX_l, bX_r, bC_l, bC_r, aLet_v, nI_add, pk_mul, dvI_n, rmI_n, iMax_n, iMin_n, zO_0, zO_1, li_0, li_1, li_2, li_3, li_4, li_5, li_6, li_7, li_8, li_9, li_10, li_12, li_14, li_15, li_16, li_18, li_19, li_20, li_22, li_23, li_24, li_26, li_29, li_30, li_31, li_32, li_36, li_38, li_48, li_50, li_57, li_58, li_59, li_60, li_63, li_97, li_99, li_120, li_122, li_144, li_168, li_194, li_240, li_255, li_284, li_299, li_603, li_999, li_1200, li_1440, li_4095, li_4096, li_6030, li_16384, li_20160, zl0, zl1, zl2, zl3, zl4, ze01, ze02, ze03, ze04, ze10, ze12, ze13, ze14, ze20, ze21, ze23, ze24, ze30, ze31, ze32, ze34, ze40, ze41, ze42, ze43, zt0, zt1, zt2, zt3, zt4, zq0, zq1, zq2, zq3, zq4, it_t, it_f, Bool.true_eq_false, Bool.false_eq_true, na5, na4, na1441, na2, na10, sx_IOIA, sx_IOIS, sx_IONS, sx_IAIO, sx_IAIS, sx_IANS, sx_ISIO, sx_ISIA, sx_ISNS, sx_NSIO, sx_NSIA, sx_NSIS, aJ_v]
  have sz : m_X8_sizeOf Q (nI so) h = some (nI cnt, h) := by
    rcases (show so = 0 ∨ so = 1 ∨ so = 2 ∨ so = 3 by omega) with r | r | r | r <;> subst r <;> simp (maxSteps := 3000000) (disch := first | assumption | omega) only [m_X8_sizeOf, swO_l0, swO_l1, swO_l2, bO_v, bR_v, bX_l, bX_r, bC_l, bC_r, aLet_v, nI_add, pk_mul, dvI_n, rmI_n, iMax_n, iMin_n, zO_0, zO_1, li_0, li_1, li_2, li_3, li_4, li_5, li_6, li_7, li_8, li_9, li_10, li_12, li_14, li_15, li_16, li_18, li_19, li_20, li_22, li_23, li_24, li_26, li_29, li_30, li_31, li_32, li_36, li_38, li_48, li_50, li_57, li_58, li_59, li_60, li_63, li_97, li_99, li_120, li_122, li_144, li_168, li_194, li_240, li_255, li_284, li_299, li_603, li_999, li_1200, li_1440, li_4095, li_4096, li_6030, li_16384, li_20160, zl0, zl1, zl2, zl3, zl4, ze01, ze02, ze03, ze04, ze10, ze12, ze13, ze14, ze20, ze21, ze23, ze24, ze30, ze31, ze32, ze34, ze40, ze41, ze42, ze43, zt0, zt1, zt2, zt3, zt4, zq0, zq1, zq2, zq3, zq4, it_t, it_f, Bool.true_eq_false, Bool.false_eq_true, na5, na4, na1441, na2, na10, sx_IOIA, sx_IOIS, sx_IONS, sx_IAIO, sx_IAIS, sx_IANS, sx_ISIO, sx_ISIA, sx_ISNS, sx_NSIO, sx_NSIA, sx_NSIS, p_cP_gi hS hQ] <;> exact congrArg (fun v => some (v, h)) ec
  have nmo : ∀ i, i < cnt → m_X8_nameOf Q (nI so) (nI i) h = some (h_lv h (nmO Q so i) 0, h) := fun i hi => by
    rcases (show so = 0 ∨ so = 1 ∨ so = 2 ∨ so = 3 by omega) with r | r | r | r <;> subst r
    · have h9 : cnt ≤ 12 := hc
      have : i < 12 := by omega
      simp (maxSteps := 3000000) (disch := first | assumption | omega) only [m_X8_nameOf, swO_l0, bO_v, bR_v, bX_l, bX_r, bC_l, bC_r, aLet_v, nI_add, pk_mul, dvI_n, rmI_n, iMax_n, iMin_n, zO_0, zO_1, li_0, li_1, li_2, li_3, li_4, li_5, li_6, li_7, li_8, li_9, li_10, li_12, li_14, li_15, li_16, li_18, li_19, li_20, li_22, li_23, li_24, li_26, li_29, li_30, li_31, li_32, li_36, li_38, li_48, li_50, li_57, li_58, li_59, li_60, li_63, li_97, li_99, li_120, li_122, li_144, li_168, li_194, li_240, li_255, li_284, li_299, li_603, li_999, li_1200, li_1440, li_4095, li_4096, li_6030, li_16384, li_20160, zl0, zl1, zl2, zl3, zl4, ze01, ze02, ze03, ze04, ze10, ze12, ze13, ze14, ze20, ze21, ze23, ze24, ze30, ze31, ze32, ze34, ze40, ze41, ze42, ze43, zt0, zt1, zt2, zt3, zt4, zq0, zq1, zq2, zq3, zq4, it_t, it_f, Bool.true_eq_false, Bool.false_eq_true, na5, na4, na1441, na2, na10, sx_IOIA, sx_IOIS, sx_IONS, sx_IAIO, sx_IAIS, sx_IANS, sx_ISIO, sx_ISIA, sx_ISNS, sx_NSIO, sx_NSIA, sx_NSIS, p_pps hS hQ, p_ep_al hS hQ, p_ep_gL hS hQ]; rfl
    · have h9 : cnt ≤ 6 := hc
      have : i < 6 := by omega
      simp (maxSteps := 3000000) (disch := first | assumption | omega) only [m_X8_nameOf, swO_l0, swO_l1, bO_v, bR_v, bX_l, bX_r, bC_l, bC_r, aLet_v, nI_add, pk_mul, dvI_n, rmI_n, iMax_n, iMin_n, zO_0, zO_1, li_0, li_1, li_2, li_3, li_4, li_5, li_6, li_7, li_8, li_9, li_10, li_12, li_14, li_15, li_16, li_18, li_19, li_20, li_22, li_23, li_24, li_26, li_29, li_30, li_31, li_32, li_36, li_38, li_48, li_50, li_57, li_58, li_59, li_60, li_63, li_97, li_99, li_120, li_122, li_144, li_168, li_194, li_240, li_255, li_284, li_299, li_603, li_999, li_1200, li_1440, li_4095, li_4096, li_6030, li_16384, li_20160, zl0, zl1, zl2, zl3, zl4, ze01, ze02, ze03, ze04, ze10, ze12, ze13, ze14, ze20, ze21, ze23, ze24, ze30, ze31, ze32, ze34, ze40, ze41, ze42, ze43, zt0, zt1, zt2, zt3, zt4, zq0, zq1, zq2, zq3, zq4, it_t, it_f, Bool.true_eq_false, Bool.false_eq_true, na5, na4, na1441, na2, na10, sx_IOIA, sx_IOIS, sx_IONS, sx_IAIO, sx_IAIS, sx_IANS, sx_ISIO, sx_ISIA, sx_ISNS, sx_NSIO, sx_NSIA, sx_NSIS, p_pgs hS hQ, p_eg_al hS hQ, p_eg_gL hS hQ]; rfl
    · have h9 : cnt ≤ 5 := hc
      have : i < 5 := by omega
      simp (maxSteps := 3000000) (disch := first | assumption | omega) only [m_X8_nameOf, swO_l0, swO_l1, swO_l2, bO_v, bR_v, bX_l, bX_r, bC_l, bC_r, aLet_v, nI_add, pk_mul, dvI_n, rmI_n, iMax_n, iMin_n, zO_0, zO_1, li_0, li_1, li_2, li_3, li_4, li_5, li_6, li_7, li_8, li_9, li_10, li_12, li_14, li_15, li_16, li_18, li_19, li_20, li_22, li_23, li_24, li_26, li_29, li_30, li_31, li_32, li_36, li_38, li_48, li_50, li_57, li_58, li_59, li_60, li_63, li_97, li_99, li_120, li_122, li_144, li_168, li_194, li_240, li_255, li_284, li_299, li_603, li_999, li_1200, li_1440, li_4095, li_4096, li_6030, li_16384, li_20160, zl0, zl1, zl2, zl3, zl4, ze01, ze02, ze03, ze04, ze10, ze12, ze13, ze14, ze20, ze21, ze23, ze24, ze30, ze31, ze32, ze34, ze40, ze41, ze42, ze43, zt0, zt1, zt2, zt3, zt4, zq0, zq1, zq2, zq3, zq4, it_t, it_f, Bool.true_eq_false, Bool.false_eq_true, na5, na4, na1441, na2, na10, sx_IOIA, sx_IOIS, sx_IONS, sx_IAIO, sx_IAIS, sx_IANS, sx_ISIO, sx_ISIA, sx_ISNS, sx_NSIO, sx_NSIA, sx_NSIS, p_pes hS hQ, p_ee_al hS hQ, p_ee_gL hS hQ]; rfl
    · have h9 : cnt ≤ 6 := hc
      have : i < 6 := by omega
      simp (maxSteps := 3000000) (disch := first | assumption | omega) only [m_X8_nameOf, swO_l0, swO_l1, swO_l2, bO_v, bR_v, bX_l, bX_r, bC_l, bC_r, aLet_v, nI_add, pk_mul, dvI_n, rmI_n, iMax_n, iMin_n, zO_0, zO_1, li_0, li_1, li_2, li_3, li_4, li_5, li_6, li_7, li_8, li_9, li_10, li_12, li_14, li_15, li_16, li_18, li_19, li_20, li_22, li_23, li_24, li_26, li_29, li_30, li_31, li_32, li_36, li_38, li_48, li_50, li_57, li_58, li_59, li_60, li_63, li_97, li_99, li_120, li_122, li_144, li_168, li_194, li_240, li_255, li_284, li_299, li_603, li_999, li_1200, li_1440, li_4095, li_4096, li_6030, li_16384, li_20160, zl0, zl1, zl2, zl3, zl4, ze01, ze02, ze03, ze04, ze10, ze12, ze13, ze14, ze20, ze21, ze23, ze24, ze30, ze31, ze32, ze34, ze40, ze41, ze42, ze43, zt0, zt1, zt2, zt3, zt4, zq0, zq1, zq2, zq3, zq4, it_t, it_f, Bool.true_eq_false, Bool.false_eq_true, na5, na4, na1441, na2, na10, sx_IOIA, sx_IOIS, sx_IONS, sx_IAIO, sx_IAIS, sx_IANS, sx_ISIO, sx_ISIA, sx_ISNS, sx_NSIO, sx_NSIA, sx_NSIS, p_pks hS hQ, p_ek_al hS hQ, p_ek_gL hS hQ]; rfl
  have c12 : cnt ≤ 12 := by split at hc <;> (try split at hc) <;> omega
  have fl : fnd tx n M so cnt s ≤ cnt := fa_first_le _ _
  refine aL1_run (R := fun o => o = some (if fnd tx n M so cnt s < cnt then nI (fnd tx n M so cnt s) else -nI 1, h)) (fun m s1 g => g = h ∧ ∃ i, i ≤ fnd tx n M so cnt s ∧ i ≤ cnt ∧ m = cnt - i ∧ s1 = nI i) ⟨rfl, 0, Nat.zero_le _, Nat.zero_le _, rfl, rfl⟩ (by omega) ?_
  rintro rec m s1 g ⟨rfl, i, hf, hi, rfl, rfl⟩ ih
  by_cases hlt : i < cnt
  · obtain ⟨n1, n2⟩ := N i hlt
    simp (maxSteps := 3000000) (disch := first | assumption | omega) only [m_X8_numberOf_L3, bO_v, bR_v, bX_l, bX_r, bC_l, bC_r, aLet_v, nI_add, pk_mul, dvI_n, rmI_n, iMax_n, iMin_n, zO_0, zO_1, li_0, li_1, li_2, li_3, li_4, li_5, li_6, li_7, li_8, li_9, li_10, li_12, li_14, li_15, li_16, li_18, li_19, li_20, li_22, li_23, li_24, li_26, li_29, li_30, li_31, li_32, li_36, li_38, li_48, li_50, li_57, li_58, li_59, li_60, li_63, li_97, li_99, li_120, li_122, li_144, li_168, li_194, li_240, li_255, li_284, li_299, li_603, li_999, li_1200, li_1440, li_4095, li_4096, li_6030, li_16384, li_20160, zl0, zl1, zl2, zl3, zl4, ze01, ze02, ze03, ze04, ze10, ze12, ze13, ze14, ze20, ze21, ze23, ze24, ze30, ze31, ze32, ze34, ze40, ze41, ze42, ze43, zt0, zt1, zt2, zt3, zt4, zq0, zq1, zq2, zq3, zq4, it_t, it_f, Bool.true_eq_false, Bool.false_eq_true, na5, na4, na1441, na2, na10, sx_IOIA, sx_IOIS, sx_IONS, sx_IAIO, sx_IAIS, sx_IANS, sx_ISIO, sx_ISIA, sx_ISNS, sx_NSIO, sx_NSIA, sx_NSIS, p_cP_gS hS hQ, sz, nI_ltI, nmo i hlt, n2, lgc_eqn, nm_eq n1 hn]
    rw [if_pos hlt]
    by_cases c : cd tx n (M 419 (nmB so + i)) = cd tx n s
    · rw [if_pos c]
      have : fnd tx n M so cnt s = i := by
        rcases Nat.lt_or_ge i (fnd tx n M so cnt s) with q | q
        · have := fa_first_no _ _ i q
          rw [decide_eq_true c] at this; cases this
        · omega
      rw [this, if_pos hlt]
    · rw [if_neg c]
      refine ih _ _ _ (by omega) ⟨rfl, i + 1, ?_, hlt, rfl, rfl⟩
      rcases Nat.lt_or_ge i (fnd tx n M so cnt s) with q | q
      · exact q
      · have e : fnd tx n M so cnt s = i := by omega
        have := fa_first_yes (fun i => decide (cd tx n (M 419 (nmB so + i)) = cd tx n s)) cnt (by unfold fnd at e; omega)
        unfold fnd at e
        rw [e] at this
        exact absurd (of_decide_eq_true this) c
  · obtain rfl : i = cnt := by omega
    simp (maxSteps := 3000000) (disch := first | assumption | omega) only [m_X8_numberOf_L3, bO_v, bR_v, bX_l, bX_r, bC_l, bC_r, aLet_v, nI_add, pk_mul, dvI_n, rmI_n, iMax_n, iMin_n, zO_0, zO_1, li_0, li_1, li_2, li_3, li_4, li_5, li_6, li_7, li_8, li_9, li_10, li_12, li_14, li_15, li_16, li_18, li_19, li_20, li_22, li_23, li_24, li_26, li_29, li_30, li_31, li_32, li_36, li_38, li_48, li_50, li_57, li_58, li_59, li_60, li_63, li_97, li_99, li_120, li_122, li_144, li_168, li_194, li_240, li_255, li_284, li_299, li_603, li_999, li_1200, li_1440, li_4095, li_4096, li_6030, li_16384, li_20160, zl0, zl1, zl2, zl3, zl4, ze01, ze02, ze03, ze04, ze10, ze12, ze13, ze14, ze20, ze21, ze23, ze24, ze30, ze31, ze32, ze34, ze40, ze41, ze42, ze43, zt0, zt1, zt2, zt3, zt4, zq0, zq1, zq2, zq3, zq4, it_t, it_f, Bool.true_eq_false, Bool.false_eq_true, na5, na4, na1441, na2, na10, sx_IOIA, sx_IOIS, sx_IONS, sx_IAIO, sx_IAIS, sx_IANS, sx_ISIO, sx_ISIA, sx_ISNS, sx_NSIO, sx_NSIA, sx_NSIS, p_cP_gS hS hQ, sz, nI_ltI]
    rw [if_neg hlt, if_neg (by omega)]
end
