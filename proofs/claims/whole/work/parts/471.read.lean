/-! the class's reader: tokens -/
def byt (c : Nat) : Int32 := (nI c).toInt8.toInt32
theorem byt_int : ∀ c, c < 256 → (byt c).toInt = if c < 128 then (c : Int) else (c : Int) - 256 := by decide +kernel
theorem byt_lt {c v : Nat} (hc : c < 256) (hv : v < 128) : (byt c < nI v) ↔ (c < v ∨ 128 ≤ c) := by
  rw [fa_lt, byt_int c hc, nI_toInt (by omega)]
  split <;> omega
theorem byt_le {c v : Nat} (hc : c < 256) (hv : v < 128) : (byt c ≤ nI v) ↔ (c ≤ v ∨ 128 ≤ c) := by
  rw [fa_le, byt_int c hc, nI_toInt (by omega)]
  split <;> omega
theorem byt_n {c : Nat} (hc : c < 128) : byt c = nI c := Int32.toInt_inj.mp (by rw [byt_int c (by omega), if_pos hc, nI_toInt (by omega)])
theorem byt_eq {c v : Nat} (hc : c < 256) (hv : v < 128) : (byt c = nI v) ↔ c = v := by
  constructor
  · intro h
    have e := congrArg Int32.toInt h
    rw [byt_int c hc, nI_toInt (by omega)] at e
    split at e <;> omega
  · rintro rfl
    exact byt_n hv
def TX (tx : Nat → Nat) (n : Nat) (h : aH) : Prop := n ≤ 1200 ∧ ∀ k, k < n → tx k < 256 ∧ h_iv h 2 k = byt (tx k)
theorem run_step {tx : Nat → Nat} {q : Nat → Bool} {n s : Nat} (h : s < n) (hq : q (tx s) = true) : run tx q n s = 1 + run tx q n (s + 1) := by
  have l := run_le (tx := tx) (q := q) (n := n) (p := s + 1)
  refine run_is (by omega) (fun k hk => ?_) (fun h9 => ?_)
  · cases k with
    | zero => exact hq
    | succ k =>
      have := run_in (tx := tx) (q := q) (n := n) (p := s + 1) (k := k) (by omega)
      rw [show s + (k + 1) = s + 1 + k by omega]; exact this
  · have := run_end (tx := tx) (q := q) (n := n) (p := s + 1) (by omega)
    rw [show s + (1 + run tx q n (s + 1)) = s + 1 + run tx q n (s + 1) by omega]; exact this
section
variable {h : aH} {tx : Nat → Nat} {n : Nat}
theorem k_isLt {c : Nat} (hc : c < 256) : m_X9_isLetter (byt c) h = some (b2i (isLt c), h) := by
  simp (maxSteps := 3000000) (disch := first | assumption | omega) only [m_X9_isLetter, bO_v, bR_v, bX_l, bX_r, bC_l, bC_r, aJ_v, aLet_v, nI_add, pk_mul, dvI_n, rmI_n, iMax_n, iMin_n, zO_0, zO_1, li_0, li_1, li_2, li_3, li_4, li_5, li_6, li_7, li_8, li_9, li_10, li_12, li_14, li_15, li_16, li_18, li_19, li_20, li_22, li_23, li_24, li_26, li_29, li_30, li_31, li_32, li_36, li_38, li_48, li_50, li_57, li_58, li_59, li_60, li_63, li_97, li_99, li_120, li_122, li_144, li_168, li_194, li_240, li_255, li_284, li_299, li_603, li_999, li_1200, li_1440, li_4095, li_4096, li_6030, li_16384, li_20160, zl0, zl1, zl2, zl3, zl4, ze01, ze02, ze03, ze04, ze10, ze12, ze13, ze14, ze20, ze21, ze23, ze24, ze30, ze31, ze32, ze34, ze40, ze41, ze42, ze43, zt0, zt1, zt2, zt3, zt4, zq0, zq1, zq2, zq3, zq4, it_t, it_f, Bool.true_eq_false, Bool.false_eq_true, na5, na4, na1441, na2, na10, sx_IOIA, sx_IOIS, sx_IONS, sx_IAIO, sx_IAIS, sx_IANS, sx_ISIO, sx_ISIA, sx_ISNS, sx_NSIO, sx_NSIA, sx_NSIS, byt_lt hc, byt_le hc]
  by_cases c1 : c < 97 ∨ 128 ≤ c
  · rw [if_pos c1, b2i_f (show isLt c = false from decide_eq_false (by omega))]
  · rw [if_neg c1]
    by_cases c2 : c ≤ 122 ∨ 128 ≤ c
    · rw [if_pos c2, b2i_t (show isLt c = true from decide_eq_true (by omega))]
    · rw [if_neg c2, b2i_f (show isLt c = false from decide_eq_false (by omega))]
theorem k_isDg {c : Nat} (hc : c < 256) : m_X9_isDigit (byt c) h = some (b2i (isDg c), h) := by
  simp (maxSteps := 3000000) (disch := first | assumption | omega) only [m_X9_isDigit, bO_v, bR_v, bX_l, bX_r, bC_l, bC_r, aJ_v, aLet_v, nI_add, pk_mul, dvI_n, rmI_n, iMax_n, iMin_n, zO_0, zO_1, li_0, li_1, li_2, li_3, li_4, li_5, li_6, li_7, li_8, li_9, li_10, li_12, li_14, li_15, li_16, li_18, li_19, li_20, li_22, li_23, li_24, li_26, li_29, li_30, li_31, li_32, li_36, li_38, li_48, li_50, li_57, li_58, li_59, li_60, li_63, li_97, li_99, li_120, li_122, li_144, li_168, li_194, li_240, li_255, li_284, li_299, li_603, li_999, li_1200, li_1440, li_4095, li_4096, li_6030, li_16384, li_20160, zl0, zl1, zl2, zl3, zl4, ze01, ze02, ze03, ze04, ze10, ze12, ze13, ze14, ze20, ze21, ze23, ze24, ze30, ze31, ze32, ze34, ze40, ze41, ze42, ze43, zt0, zt1, zt2, zt3, zt4, zq0, zq1, zq2, zq3, zq4, it_t, it_f, Bool.true_eq_false, Bool.false_eq_true, na5, na4, na1441, na2, na10, sx_IOIA, sx_IOIS, sx_IONS, sx_IAIO, sx_IAIS, sx_IANS, sx_ISIO, sx_ISIA, sx_ISNS, sx_NSIO, sx_NSIA, sx_NSIS, byt_lt hc, byt_le hc]
  by_cases c1 : c < 48 ∨ 128 ≤ c
  · rw [if_pos c1, b2i_f (show isDg c = false from decide_eq_false (by omega))]
  · rw [if_neg c1]
    by_cases c2 : c ≤ 57 ∨ 128 ≤ c
    · rw [if_pos c2, b2i_t (show isDg c = true from decide_eq_true (by omega))]
    · rw [if_neg c2, b2i_f (show isDg c = false from decide_eq_false (by omega))]
theorem k_skip (hS : Sh h) (X : TX tx n h) (e1 : h_iv h 3 1 = nI n) {p : Nat} (e5 : h_iv h 3 5 = nI p) (hp : p ≤ n) {k60 : aH → Option (Unit × aH)} {Z : Option (Unit × aH) → Prop}
    (hk : ∀ h2, Fx (fun o k => o = 3 ∧ k = 5) h h2 → h_iv h2 3 5 = nI (skp tx n p) → Z (k60 h2)) : Z (aL0 (m_X9_take_L8 3 k60) FU h) := by
  obtain ⟨X1, X2⟩ := X
  refine aL0_run (fun m h2 => ∃ p', p' ≤ n ∧ m = n - p' ∧ skp tx n p' = skp tx n p ∧ Fx (fun o k => o = 3 ∧ k = 5) h h2 ∧ h_iv h2 3 5 = nI p') ⟨p, hp, rfl, rfl, Fx.rf, e5⟩ (by omega) ?_
  rintro rec m h2 ⟨p', hp', rfl, es, F2, g5⟩ ih
  have S2 := F2.sh hS
  have g1 : h_iv h2 3 1 = nI n := by rw [F2.iv (by omega)]; exact e1
  by_cases hlt : p' < n
  · obtain ⟨c9, tb⟩ := X2 p' hlt
    rw [← F2.iv (show ¬ (2 = 3 ∧ p' = 5) by omega)] at tb
    simp (maxSteps := 3000000) (disch := first | assumption | omega) only [m_X9_take_L8, bO_v, bR_v, bX_l, bX_r, bC_l, bC_r, aLet_v, nI_add, pk_mul, dvI_n, rmI_n, iMax_n, iMin_n, zO_0, zO_1, li_0, li_1, li_2, li_3, li_4, li_5, li_6, li_7, li_8, li_9, li_10, li_12, li_14, li_15, li_16, li_18, li_19, li_20, li_22, li_23, li_24, li_26, li_29, li_30, li_31, li_32, li_36, li_38, li_48, li_50, li_57, li_58, li_59, li_60, li_63, li_97, li_99, li_120, li_122, li_144, li_168, li_194, li_240, li_255, li_284, li_299, li_603, li_999, li_1200, li_1440, li_4095, li_4096, li_6030, li_16384, li_20160, zl0, zl1, zl2, zl3, zl4, ze01, ze02, ze03, ze04, ze10, ze12, ze13, ze14, ze20, ze21, ze23, ze24, ze30, ze31, ze32, ze34, ze40, ze41, ze42, ze43, zt0, zt1, zt2, zt3, zt4, zq0, zq1, zq2, zq3, zq4, it_t, it_f, Bool.true_eq_false, Bool.false_eq_true, na5, na4, na1441, na2, na10, sx_IOIA, sx_IOIS, sx_IONS, sx_IAIO, sx_IAIS, sx_IANS, sx_ISIO, sx_ISIA, sx_ISNS, sx_NSIO, sx_NSIA, sx_NSIS, c_cR_gi S2, g5, g1, nI_ltI, c_prtxt S2, c_ctxt_al S2, tb, byt_eq c9]
    rw [if_pos hlt]
    refine aJ_gen (fun k47 hk47 => ?_)
    have go : isBl (tx p') = true → Z (k47 h2) := fun hb => by
      rw [hk47]
      simp (maxSteps := 3000000) (disch := first | assumption | omega) only [bO_v, bR_v, bX_l, bX_r, bC_l, bC_r, aLet_v, nI_add, pk_mul, dvI_n, rmI_n, iMax_n, iMin_n, zO_0, zO_1, li_0, li_1, li_2, li_3, li_4, li_5, li_6, li_7, li_8, li_9, li_10, li_12, li_14, li_15, li_16, li_18, li_19, li_20, li_22, li_23, li_24, li_26, li_29, li_30, li_31, li_32, li_36, li_38, li_48, li_50, li_57, li_58, li_59, li_60, li_63, li_97, li_99, li_120, li_122, li_144, li_168, li_194, li_240, li_255, li_284, li_299, li_603, li_999, li_1200, li_1440, li_4095, li_4096, li_6030, li_16384, li_20160, zl0, zl1, zl2, zl3, zl4, ze01, ze02, ze03, ze04, ze10, ze12, ze13, ze14, ze20, ze21, ze23, ze24, ze30, ze31, ze32, ze34, ze40, ze41, ze42, ze43, zt0, zt1, zt2, zt3, zt4, zq0, zq1, zq2, zq3, zq4, it_t, it_f, Bool.true_eq_false, Bool.false_eq_true, na5, na4, na1441, na2, na10, sx_IOIA, sx_IOIS, sx_IONS, sx_IAIO, sx_IAIS, sx_IANS, sx_ISIO, sx_ISIA, sx_ISNS, sx_NSIO, sx_NSIA, sx_NSIS, c_cR_gi S2, g5, c_cR_pi S2]
      exact ih _ _ (by omega) ⟨p' + 1, hlt, rfl, by rw [← es]; exact skp_step hlt hb, F2.trans (Fx.si (A := fun o k => o = 3 ∧ k = 5) ⟨rfl, rfl⟩), si_at⟩
    by_cases c1 : tx p' = 10
    · rw [if_pos c1]; exact go (decide_eq_true (Or.inl c1))
    · rw [if_neg c1]
      by_cases c2 : tx p' = 32
      · rw [if_pos c2]; exact go (decide_eq_true (Or.inr c2))
      · rw [if_neg c2]
        refine hk h2 F2 ?_
        rw [← es, skp_stop (Or.inr (decide_eq_false (by omega))) hp']; exact g5
  · obtain rfl : p' = n := by omega
    simp (maxSteps := 3000000) (disch := first | assumption | omega) only [m_X9_take_L8, bO_v, bR_v, bX_l, bX_r, bC_l, bC_r, aLet_v, nI_add, pk_mul, dvI_n, rmI_n, iMax_n, iMin_n, zO_0, zO_1, li_0, li_1, li_2, li_3, li_4, li_5, li_6, li_7, li_8, li_9, li_10, li_12, li_14, li_15, li_16, li_18, li_19, li_20, li_22, li_23, li_24, li_26, li_29, li_30, li_31, li_32, li_36, li_38, li_48, li_50, li_57, li_58, li_59, li_60, li_63, li_97, li_99, li_120, li_122, li_144, li_168, li_194, li_240, li_255, li_284, li_299, li_603, li_999, li_1200, li_1440, li_4095, li_4096, li_6030, li_16384, li_20160, zl0, zl1, zl2, zl3, zl4, ze01, ze02, ze03, ze04, ze10, ze12, ze13, ze14, ze20, ze21, ze23, ze24, ze30, ze31, ze32, ze34, ze40, ze41, ze42, ze43, zt0, zt1, zt2, zt3, zt4, zq0, zq1, zq2, zq3, zq4, it_t, it_f, Bool.true_eq_false, Bool.false_eq_true, na5, na4, na1441, na2, na10, sx_IOIA, sx_IOIS, sx_IONS, sx_IAIO, sx_IAIS, sx_IANS, sx_ISIO, sx_ISIA, sx_ISNS, sx_NSIO, sx_NSIA, sx_NSIS, c_cR_gi S2, g5, g1, nI_ltI]
    rw [if_neg hlt]
    refine hk h2 F2 ?_
    rw [← es, skp_stop (Or.inl (Nat.le_refl _)) hp']; exact g5
theorem k_runL (hS : Sh h) (X : TX tx n h) (e1 : h_iv h 3 1 = nI n) {p : Nat} (e5 : h_iv h 3 5 = nI p) (hp : p ≤ n) {k60 : aH → Option (Unit × aH)} {Z : Option (Unit × aH) → Prop}
    (hk : ∀ h2, Fx (fun o k => o = 3 ∧ k = 5) h h2 → h_iv h2 3 5 = nI (p + run tx isLt n p) → Z (k60 h2)) : Z (aL0 (m_X9_take_L115 3 k60) FU h) := by
  obtain ⟨X1, X2⟩ := X
  refine aL0_run (fun m h2 => ∃ j, p + j ≤ n ∧ m = n - (p + j) ∧ (∀ k, k < j → isLt (tx (p + k)) = true) ∧ Fx (fun o k => o = 3 ∧ k = 5) h h2 ∧ h_iv h2 3 5 = nI (p + j)) ⟨0, hp, rfl, fun k q => absurd q (Nat.not_lt_zero k), Fx.rf, e5⟩ (by omega) ?_
  rintro rec m h2 ⟨j, hp', rfl, es, F2, g5⟩ ih
  have S2 := F2.sh hS
  have g1 : h_iv h2 3 1 = nI n := by rw [F2.iv (by omega)]; exact e1
  by_cases hlt : p + j < n
  · obtain ⟨c9, tb⟩ := X2 (p + j) hlt
    rw [← F2.iv (show ¬ (2 = 3 ∧ p + j = 5) by omega)] at tb
    simp (maxSteps := 3000000) (disch := first | assumption | omega) only [m_X9_take_L115, bO_v, bR_v, bX_l, bX_r, bC_l, bC_r, aLet_v, nI_add, pk_mul, dvI_n, rmI_n, iMax_n, iMin_n, zO_0, zO_1, li_0, li_1, li_2, li_3, li_4, li_5, li_6, li_7, li_8, li_9, li_10, li_12, li_14, li_15, li_16, li_18, li_19, li_20, li_22, li_23, li_24, li_26, li_29, li_30, li_31, li_32, li_36, li_38, li_48, li_50, li_57, li_58, li_59, li_60, li_63, li_97, li_99, li_120, li_122, li_144, li_168, li_194, li_240, li_255, li_284, li_299, li_603, li_999, li_1200, li_1440, li_4095, li_4096, li_6030, li_16384, li_20160, zl0, zl1, zl2, zl3, zl4, ze01, ze02, ze03, ze04, ze10, ze12, ze13, ze14, ze20, ze21, ze23, ze24, ze30, ze31, ze32, ze34, ze40, ze41, ze42, ze43, zt0, zt1, zt2, zt3, zt4, zq0, zq1, zq2, zq3, zq4, it_t, it_f, Bool.true_eq_false, Bool.false_eq_true, na5, na4, na1441, na2, na10, sx_IOIA, sx_IOIS, sx_IONS, sx_IAIO, sx_IAIS, sx_IANS, sx_ISIO, sx_ISIA, sx_ISNS, sx_NSIO, sx_NSIA, sx_NSIS, c_cR_gi S2, g5, g1, nI_ltI, c_prtxt S2, c_ctxt_al S2, tb, k_isLt c9, b2i_0]
    rw [if_pos hlt]
    cases cb : isLt (tx (p + j))
    · rw [if_pos rfl]
      refine hk h2 F2 ?_
      rw [run_is hp' es (fun _ => cb)]; exact g5
    · rw [if_neg (by decide)]
      simp (maxSteps := 3000000) (disch := first | assumption | omega) only [bO_v, bR_v, bX_l, bX_r, bC_l, bC_r, aLet_v, nI_add, pk_mul, dvI_n, rmI_n, iMax_n, iMin_n, zO_0, zO_1, li_0, li_1, li_2, li_3, li_4, li_5, li_6, li_7, li_8, li_9, li_10, li_12, li_14, li_15, li_16, li_18, li_19, li_20, li_22, li_23, li_24, li_26, li_29, li_30, li_31, li_32, li_36, li_38, li_48, li_50, li_57, li_58, li_59, li_60, li_63, li_97, li_99, li_120, li_122, li_144, li_168, li_194, li_240, li_255, li_284, li_299, li_603, li_999, li_1200, li_1440, li_4095, li_4096, li_6030, li_16384, li_20160, zl0, zl1, zl2, zl3, zl4, ze01, ze02, ze03, ze04, ze10, ze12, ze13, ze14, ze20, ze21, ze23, ze24, ze30, ze31, ze32, ze34, ze40, ze41, ze42, ze43, zt0, zt1, zt2, zt3, zt4, zq0, zq1, zq2, zq3, zq4, it_t, it_f, Bool.true_eq_false, Bool.false_eq_true, na5, na4, na1441, na2, na10, sx_IOIA, sx_IOIS, sx_IONS, sx_IAIO, sx_IAIS, sx_IANS, sx_ISIO, sx_ISIA, sx_ISNS, sx_NSIO, sx_NSIA, sx_NSIS, c_cR_gi S2, g5, c_cR_pi S2]
      refine ih _ _ (by omega) ⟨j + 1, by omega, rfl, fun k hk9 => ?_, F2.trans (Fx.si (A := fun o k => o = 3 ∧ k = 5) ⟨rfl, rfl⟩), si_at⟩
      by_cases c : k = j
      · rw [c]; exact cb
      · exact es k (by omega)
  · simp (maxSteps := 3000000) (disch := first | assumption | omega) only [m_X9_take_L115, bO_v, bR_v, bX_l, bX_r, bC_l, bC_r, aLet_v, nI_add, pk_mul, dvI_n, rmI_n, iMax_n, iMin_n, zO_0, zO_1, li_0, li_1, li_2, li_3, li_4, li_5, li_6, li_7, li_8, li_9, li_10, li_12, li_14, li_15, li_16, li_18, li_19, li_20, li_22, li_23, li_24, li_26, li_29, li_30, li_31, li_32, li_36, li_38, li_48, li_50, li_57, li_58, li_59, li_60, li_63, li_97, li_99, li_120, li_122, li_144, li_168, li_194, li_240, li_255, li_284, li_299, li_603, li_999, li_1200, li_1440, li_4095, li_4096, li_6030, li_16384, li_20160, zl0, zl1, zl2, zl3, zl4, ze01, ze02, ze03, ze04, ze10, ze12, ze13, ze14, ze20, ze21, ze23, ze24, ze30, ze31, ze32, ze34, ze40, ze41, ze42, ze43, zt0, zt1, zt2, zt3, zt4, zq0, zq1, zq2, zq3, zq4, it_t, it_f, Bool.true_eq_false, Bool.false_eq_true, na5, na4, na1441, na2, na10, sx_IOIA, sx_IOIS, sx_IONS, sx_IAIO, sx_IAIS, sx_IANS, sx_ISIO, sx_ISIA, sx_ISNS, sx_NSIO, sx_NSIA, sx_NSIS, c_cR_gi S2, g5, g1, nI_ltI]
    rw [if_neg hlt]
    refine hk h2 F2 ?_
    rw [run_is hp' es (fun q => absurd q hlt)]; exact g5
theorem k_runD (hS : Sh h) (X : TX tx n h) (e1 : h_iv h 3 1 = nI n) {p : Nat} (e5 : h_iv h 3 5 = nI p) (hp : p ≤ n) {k60 : aH → Option (Unit × aH)} {Z : Option (Unit × aH) → Prop}
    (hk : ∀ h2, Fx (fun o k => o = 3 ∧ k = 5) h h2 → h_iv h2 3 5 = nI (p + run tx isDg n p) → Z (k60 h2)) : Z (aL0 (m_X9_take_L169 3 k60) FU h) := by
  obtain ⟨X1, X2⟩ := X
  refine aL0_run (fun m h2 => ∃ j, p + j ≤ n ∧ m = n - (p + j) ∧ (∀ k, k < j → isDg (tx (p + k)) = true) ∧ Fx (fun o k => o = 3 ∧ k = 5) h h2 ∧ h_iv h2 3 5 = nI (p + j)) ⟨0, hp, rfl, fun k q => absurd q (Nat.not_lt_zero k), Fx.rf, e5⟩ (by omega) ?_
  rintro rec m h2 ⟨j, hp', rfl, es, F2, g5⟩ ih
  have S2 := F2.sh hS
  have g1 : h_iv h2 3 1 = nI n := by rw [F2.iv (by omega)]; exact e1
  by_cases hlt : p + j < n
  · obtain ⟨c9, tb⟩ := X2 (p + j) hlt
    rw [← F2.iv (show ¬ (2 = 3 ∧ p + j = 5) by omega)] at tb
    simp (maxSteps := 3000000) (disch := first | assumption | omega) only [m_X9_take_L169, bO_v, bR_v, bX_l, bX_r, bC_l, bC_r, aLet_v, nI_add, pk_mul, dvI_n, rmI_n, iMax_n, iMin_n, zO_0, zO_1, li_0, li_1, li_2, li_3, li_4, li_5, li_6, li_7, li_8, li_9, li_10, li_12, li_14, li_15, li_16, li_18, li_19, li_20, li_22, li_23, li_24, li_26, li_29, li_30, li_31, li_32, li_36, li_38, li_48, li_50, li_57, li_58, li_59, li_60, li_63, li_97, li_99, li_120, li_122, li_144, li_168, li_194, li_240, li_255, li_284, li_299, li_603, li_999, li_1200, li_1440, li_4095, li_4096, li_6030, li_16384, li_20160, zl0, zl1, zl2, zl3, zl4, ze01, ze02, ze03, ze04, ze10, ze12, ze13, ze14, ze20, ze21, ze23, ze24, ze30, ze31, ze32, ze34, ze40, ze41, ze42, ze43, zt0, zt1, zt2, zt3, zt4, zq0, zq1, zq2, zq3, zq4, it_t, it_f, Bool.true_eq_false, Bool.false_eq_true, na5, na4, na1441, na2, na10, sx_IOIA, sx_IOIS, sx_IONS, sx_IAIO, sx_IAIS, sx_IANS, sx_ISIO, sx_ISIA, sx_ISNS, sx_NSIO, sx_NSIA, sx_NSIS, c_cR_gi S2, g5, g1, nI_ltI, c_prtxt S2, c_ctxt_al S2, tb, k_isDg c9, b2i_0]
    rw [if_pos hlt]
    cases cb : isDg (tx (p + j))
    · rw [if_pos rfl]
      refine hk h2 F2 ?_
      rw [run_is hp' es (fun _ => cb)]; exact g5
    · rw [if_neg (by decide)]
      simp (maxSteps := 3000000) (disch := first | assumption | omega) only [bO_v, bR_v, bX_l, bX_r, bC_l, bC_r, aLet_v, nI_add, pk_mul, dvI_n, rmI_n, iMax_n, iMin_n, zO_0, zO_1, li_0, li_1, li_2, li_3, li_4, li_5, li_6, li_7, li_8, li_9, li_10, li_12, li_14, li_15, li_16, li_18, li_19, li_20, li_22, li_23, li_24, li_26, li_29, li_30, li_31, li_32, li_36, li_38, li_48, li_50, li_57, li_58, li_59, li_60, li_63, li_97, li_99, li_120, li_122, li_144, li_168, li_194, li_240, li_255, li_284, li_299, li_603, li_999, li_1200, li_1440, li_4095, li_4096, li_6030, li_16384, li_20160, zl0, zl1, zl2, zl3, zl4, ze01, ze02, ze03, ze04, ze10, ze12, ze13, ze14, ze20, ze21, ze23, ze24, ze30, ze31, ze32, ze34, ze40, ze41, ze42, ze43, zt0, zt1, zt2, zt3, zt4, zq0, zq1, zq2, zq3, zq4, it_t, it_f, Bool.true_eq_false, Bool.false_eq_true, na5, na4, na1441, na2, na10, sx_IOIA, sx_IOIS, sx_IONS, sx_IAIO, sx_IAIS, sx_IANS, sx_ISIO, sx_ISIA, sx_ISNS, sx_NSIO, sx_NSIA, sx_NSIS, c_cR_gi S2, g5, c_cR_pi S2]
      refine ih _ _ (by omega) ⟨j + 1, by omega, rfl, fun k hk9 => ?_, F2.trans (Fx.si (A := fun o k => o = 3 ∧ k = 5) ⟨rfl, rfl⟩), si_at⟩
      by_cases c : k = j
      · rw [c]; exact cb
      · exact es k (by omega)
  · simp (maxSteps := 3000000) (disch := first | assumption | omega) only [m_X9_take_L169, bO_v, bR_v, bX_l, bX_r, bC_l, bC_r, aLet_v, nI_add, pk_mul, dvI_n, rmI_n, iMax_n, iMin_n, zO_0, zO_1, li_0, li_1, li_2, li_3, li_4, li_5, li_6, li_7, li_8, li_9, li_10, li_12, li_14, li_15, li_16, li_18, li_19, li_20, li_22, li_23, li_24, li_26, li_29, li_30, li_31, li_32, li_36, li_38, li_48, li_50, li_57, li_58, li_59, li_60, li_63, li_97, li_99, li_120, li_122, li_144, li_168, li_194, li_240, li_255, li_284, li_299, li_603, li_999, li_1200, li_1440, li_4095, li_4096, li_6030, li_16384, li_20160, zl0, zl1, zl2, zl3, zl4, ze01, ze02, ze03, ze04, ze10, ze12, ze13, ze14, ze20, ze21, ze23, ze24, ze30, ze31, ze32, ze34, ze40, ze41, ze42, ze43, zt0, zt1, zt2, zt3, zt4, zq0, zq1, zq2, zq3, zq4, it_t, it_f, Bool.true_eq_false, Bool.false_eq_true, na5, na4, na1441, na2, na10, sx_IOIA, sx_IOIS, sx_IONS, sx_IAIO, sx_IAIS, sx_IANS, sx_ISIO, sx_ISIA, sx_ISNS, sx_NSIO, sx_NSIA, sx_NSIS, c_cR_gi S2, g5, g1, nI_ltI]
    rw [if_neg hlt]
    refine hk h2 F2 ?_
    rw [run_is hp' es (fun q => absurd q hlt)]; exact g5
/-- the token at s is looked at -/
def LKd (tx : Nat → Nat) (n : Nat) (h : aH) (s : Nat) : Prop := h_iv h 3 3 = nI (tok tx n s) ∧ h_iv h 3 4 = nI s ∧ h_iv h 3 5 = nI (nxt tx n s)
def TKx (o k : Nat) : Prop := o = 3 ∧ 3 ≤ k ∧ k ≤ 6
theorem k_take (hS : Sh h) (X : TX tx n h) (e1 : h_iv h 3 1 = nI n) {p s0 : Nat} (e5 : h_iv h 3 5 = nI p) (e4 : h_iv h 3 4 = nI s0) (hp : p ≤ n) :
    OK (m_X9_take 3 h) (fun _ h1 => Fx TKx h h1 ∧ LKd tx n h1 (skp tx n p) ∧ h_iv h1 3 6 = nI s0) := by
  have X0 := X
  obtain ⟨X1, X2⟩ := X
  have sl := skp_le (tx := tx) hp
  have hT : ∀ {k : Nat} {x : Int32} {g : aH}, 3 ≤ k → k ≤ 6 → Fx TKx g (h_si g 3 k x) := fun q1 q2 => Fx.si ⟨rfl, q1, q2⟩
  have F1 : Fx TKx h (h_si h 3 6 (nI s0)) := hT (by omega) (by omega)
  have S1 := F1.sh hS
  simp (maxSteps := 3000000) (disch := first | assumption | omega) only [m_X9_take, bO_v, bR_v, bX_l, bX_r, bC_l, bC_r, aLet_v, nI_add, pk_mul, dvI_n, rmI_n, iMax_n, iMin_n, zO_0, zO_1, li_0, li_1, li_2, li_3, li_4, li_5, li_6, li_7, li_8, li_9, li_10, li_12, li_14, li_15, li_16, li_18, li_19, li_20, li_22, li_23, li_24, li_26, li_29, li_30, li_31, li_32, li_36, li_38, li_48, li_50, li_57, li_58, li_59, li_60, li_63, li_97, li_99, li_120, li_122, li_144, li_168, li_194, li_240, li_255, li_284, li_299, li_603, li_999, li_1200, li_1440, li_4095, li_4096, li_6030, li_16384, li_20160, zl0, zl1, zl2, zl3, zl4, ze01, ze02, ze03, ze04, ze10, ze12, ze13, ze14, ze20, ze21, ze23, ze24, ze30, ze31, ze32, ze34, ze40, ze41, ze42, ze43, zt0, zt1, zt2, zt3, zt4, zq0, zq1, zq2, zq3, zq4, it_t, it_f, Bool.true_eq_false, Bool.false_eq_true, na5, na4, na1441, na2, na10, sx_IOIA, sx_IOIS, sx_IONS, sx_IAIO, sx_IAIS, sx_IANS, sx_ISIO, sx_ISIA, sx_ISNS, sx_NSIO, sx_NSIA, sx_NSIS, c_cR_gi hS, e4, c_cR_pi hS]
  refine aJ_gen (R := fun o => OK o _) (fun k60 hk60 => ?_)
  have tx1 : TX tx n (h_si h 3 6 (nI s0)) := ⟨X1, fun k hk => ⟨(X2 k hk).1, by rw [si_ne (by omega)]; exact (X2 k hk).2⟩⟩
  refine k_skip (Z := fun o => OK o _) S1 tx1 (by rw [si_ne (by omega)]; exact e1) (by rw [si_ne (by omega)]; exact e5) hp (fun h2 F2 g5 => ?_)
  rw [hk60]
  have F2' : Fx TKx h h2 := F1.trans (F2.mono (fun o k q => ⟨q.1, by omega, by omega⟩))
  have S2 := F2'.sh hS
  have g6 : h_iv h2 3 6 = nI s0 := by rw [F2.iv (by omega), si_at]
  have g1 : h_iv h2 3 1 = nI n := by rw [F2'.iv (by unfold TKx; omega)]; exact e1
  generalize hs : skp tx n p = s at g5 sl
  have F3 : Fx TKx h (h_si h2 3 4 (nI s)) := F2'.trans (hT (by omega) (by omega))
  have S3 := F3.sh hS
  have g53 : h_iv (h_si h2 3 4 (nI s)) 3 5 = nI s := by rw [si_ne (by omega)]; exact g5
  have g13 : h_iv (h_si h2 3 4 (nI s)) 3 1 = nI n := by rw [si_ne (by omega)]; exact g1
  simp (maxSteps := 3000000) (disch := first | assumption | omega) only [bO_v, bR_v, bX_l, bX_r, bC_l, bC_r, aLet_v, nI_add, pk_mul, dvI_n, rmI_n, iMax_n, iMin_n, zO_0, zO_1, li_0, li_1, li_2, li_3, li_4, li_5, li_6, li_7, li_8, li_9, li_10, li_12, li_14, li_15, li_16, li_18, li_19, li_20, li_22, li_23, li_24, li_26, li_29, li_30, li_31, li_32, li_36, li_38, li_48, li_50, li_57, li_58, li_59, li_60, li_63, li_97, li_99, li_120, li_122, li_144, li_168, li_194, li_240, li_255, li_284, li_299, li_603, li_999, li_1200, li_1440, li_4095, li_4096, li_6030, li_16384, li_20160, zl0, zl1, zl2, zl3, zl4, ze01, ze02, ze03, ze04, ze10, ze12, ze13, ze14, ze20, ze21, ze23, ze24, ze30, ze31, ze32, ze34, ze40, ze41, ze42, ze43, zt0, zt1, zt2, zt3, zt4, zq0, zq1, zq2, zq3, zq4, it_t, it_f, Bool.true_eq_false, Bool.false_eq_true, na5, na4, na1441, na2, na10, sx_IOIA, sx_IOIS, sx_IONS, sx_IAIO, sx_IAIS, sx_IANS, sx_ISIO, sx_ISIA, sx_ISNS, sx_NSIO, sx_NSIA, sx_NSIS, c_cR_gi S2, g5, c_cR_pi S2, c_cR_gi S3, g53, g13, nI_ltI]
  by_cases hlt : s < n
  · rw [if_pos hlt]
    obtain ⟨c9, tb0⟩ := X2 s hlt
    have F4 : Fx TKx h (h_si (h_si h2 3 4 (nI s)) 3 5 (nI (s + 1))) := F3.trans (hT (by omega) (by omega))
    have S4 := F4.sh hS
    have tb : h_iv (h_si (h_si h2 3 4 (nI s)) 3 5 (nI (s + 1))) 2 s = byt (tx s) := by rw [F4.iv (by unfold TKx; omega)]; exact tb0
    have g44 : h_iv (h_si (h_si h2 3 4 (nI s)) 3 5 (nI (s + 1))) 3 4 = nI s := by rw [si_ne (by omega), si_at]
    have g54 : h_iv (h_si (h_si h2 3 4 (nI s)) 3 5 (nI (s + 1))) 3 5 = nI (s + 1) := si_at
    have g14 : h_iv (h_si (h_si h2 3 4 (nI s)) 3 5 (nI (s + 1))) 3 1 = nI n := by rw [si_ne (by omega)]; exact g13
    have g64 : h_iv (h_si (h_si h2 3 4 (nI s)) 3 5 (nI (s + 1))) 3 6 = nI s0 := by rw [si_ne (by omega), si_ne (by omega)]; exact g6
    simp (maxSteps := 3000000) (disch := first | assumption | omega) only [bO_v, bR_v, bX_l, bX_r, bC_l, bC_r, aLet_v, nI_add, pk_mul, dvI_n, rmI_n, iMax_n, iMin_n, zO_0, zO_1, li_0, li_1, li_2, li_3, li_4, li_5, li_6, li_7, li_8, li_9, li_10, li_12, li_14, li_15, li_16, li_18, li_19, li_20, li_22, li_23, li_24, li_26, li_29, li_30, li_31, li_32, li_36, li_38, li_48, li_50, li_57, li_58, li_59, li_60, li_63, li_97, li_99, li_120, li_122, li_144, li_168, li_194, li_240, li_255, li_284, li_299, li_603, li_999, li_1200, li_1440, li_4095, li_4096, li_6030, li_16384, li_20160, zl0, zl1, zl2, zl3, zl4, ze01, ze02, ze03, ze04, ze10, ze12, ze13, ze14, ze20, ze21, ze23, ze24, ze30, ze31, ze32, ze34, ze40, ze41, ze42, ze43, zt0, zt1, zt2, zt3, zt4, zq0, zq1, zq2, zq3, zq4, it_t, it_f, Bool.true_eq_false, Bool.false_eq_true, na5, na4, na1441, na2, na10, sx_IOIA, sx_IOIS, sx_IONS, sx_IAIO, sx_IAIS, sx_IANS, sx_ISIO, sx_ISIA, sx_ISNS, sx_NSIO, sx_NSIA, sx_NSIS, c_cR_pi S3, c_prtxt S4, c_cR_gi S4, g44, c_ctxt_al S4, tb, k_isLt c9, k_isDg c9, b2i_0, byt_eq c9]
    generalize hg4 : h_si (h_si h2 3 4 (nI s)) 3 5 (nI (s + 1)) = h4 at F4 S4 tb g44 g54 g14 g64
    have X4 : TX tx n h4 := ⟨X1, fun k hk => ⟨(X2 k hk).1, by rw [F4.iv (by unfold TKx; omega)]; exact (X2 k hk).2⟩⟩
    refine aJ_gen (R := fun o => OK o _) (fun k274 hk274 => ?_)
    have fin : ∀ h5 t x, Fx TKx h h5 → h_iv h5 3 4 = nI s → h_iv h5 3 6 = nI s0 → h_iv h5 3 3 = nI t → h_iv h5 3 5 = nI x → t = tok tx n s → x = nxt tx n s → OK (k274 h5) (fun _ h1 => Fx TKx h h1 ∧ LKd tx n h1 s ∧ h_iv h1 3 6 = nI s0) := fun h5 t x F5 f4 f6 f3 f5 et ex => by
      rw [hk274]
      exact ok_ret ⟨F5, ⟨by rw [f3, et], f4, by rw [f5, ex]⟩, f6⟩
    cases cl : isLt (tx s)
    · rw [if_pos rfl]
      cases cd : isDg (tx s)
      · rw [if_pos rfl]
        have en : nxt tx n s = s + 1 := by unfold nxt; rw [if_neg (by omega), cl, if_neg (by decide), cd, if_neg (by decide)]
        have et : tok tx n s = if tx s = 59 then 3 else if tx s = 58 then 4 else 0 := by unfold tok; rw [if_neg (by omega), cl, if_neg (by decide), cd, if_neg (by decide)]
        refine aJ_gen (R := fun o => OK o _) (fun k271 hk271 => ?_)
        have fin2 : ∀ t, t = tok tx n s → OK (k271 (nI t) h4) (fun _ h1 => Fx TKx h h1 ∧ LKd tx n h1 s ∧ h_iv h1 3 6 = nI s0) := fun t e => by
          rw [hk271]
          simp (maxSteps := 3000000) (disch := first | assumption | omega) only [bO_v, bR_v, bX_l, bX_r, bC_l, bC_r, aLet_v, nI_add, pk_mul, dvI_n, rmI_n, iMax_n, iMin_n, zO_0, zO_1, li_0, li_1, li_2, li_3, li_4, li_5, li_6, li_7, li_8, li_9, li_10, li_12, li_14, li_15, li_16, li_18, li_19, li_20, li_22, li_23, li_24, li_26, li_29, li_30, li_31, li_32, li_36, li_38, li_48, li_50, li_57, li_58, li_59, li_60, li_63, li_97, li_99, li_120, li_122, li_144, li_168, li_194, li_240, li_255, li_284, li_299, li_603, li_999, li_1200, li_1440, li_4095, li_4096, li_6030, li_16384, li_20160, zl0, zl1, zl2, zl3, zl4, ze01, ze02, ze03, ze04, ze10, ze12, ze13, ze14, ze20, ze21, ze23, ze24, ze30, ze31, ze32, ze34, ze40, ze41, ze42, ze43, zt0, zt1, zt2, zt3, zt4, zq0, zq1, zq2, zq3, zq4, it_t, it_f, Bool.true_eq_false, Bool.false_eq_true, na5, na4, na1441, na2, na10, sx_IOIA, sx_IOIS, sx_IONS, sx_IAIO, sx_IAIS, sx_IANS, sx_ISIO, sx_ISIA, sx_ISNS, sx_NSIO, sx_NSIA, sx_NSIS, c_cR_pi S4]
          exact fin _ t (s + 1) (F4.trans (hT (by omega) (by omega))) (by rw [si_ne (by omega)]; exact g44) (by rw [si_ne (by omega)]; exact g64) si_at (by rw [si_ne (by omega)]; exact g54) e en.symm
        by_cases c1 : tx s = 59
        · rw [if_pos c1] at et ⊢
          exact fin2 3 et.symm
        · rw [if_neg c1] at et ⊢
          by_cases c2 : tx s = 58
          · rw [if_pos c2] at et ⊢
            exact fin2 4 et.symm
          · rw [if_neg c2] at et ⊢
            exact fin2 0 et.symm
      · rw [if_neg (by decide)]
        have rd := run_step (q := isDg) hlt cd
        have en : nxt tx n s = s + dle tx n s := by unfold nxt; rw [if_neg (by omega), cl, if_neg (by decide), cd, if_pos rfl]
        have et : tok tx n s = if dle tx n s ≤ 5 then 2 else 0 := by unfold tok; rw [if_neg (by omega), cl, if_neg (by decide), cd, if_pos rfl]
        refine aJ_gen (R := fun o => OK o _) (fun k208 hk208 => ?_)
        refine k_runD (Z := fun o => OK o _) S4 X4 g14 g54 hlt (fun h5 F5 f5 => ?_)
        have F5' : Fx TKx h h5 := F4.trans (F5.mono (fun o k q => ⟨q.1, by omega, by omega⟩))
        have S5 := F5'.sh hS
        have e5 : s + 1 + run tx isDg n (s + 1) = s + dle tx n s := by unfold dle; omega
        rw [e5] at f5
        have f4 : h_iv h5 3 4 = nI s := by rw [F5.iv (by omega)]; exact g44
        have f6 : h_iv h5 3 6 = nI s0 := by rw [F5.iv (by omega)]; exact g64
        have lw := run_le (tx := tx) (q := isDg) (n := n) (p := s)
        have lw2 : dle tx n s ≤ n - s := lw
        have sub : nI (s + dle tx n s) - nI s = nI (dle tx n s) := by rw [pk_sub (by omega), Nat.add_sub_cancel_left]
        rw [hk208]
        simp (maxSteps := 3000000) (disch := first | assumption | omega) only [bO_v, bR_v, bX_l, bX_r, bC_l, bC_r, aLet_v, nI_add, pk_mul, dvI_n, rmI_n, iMax_n, iMin_n, zO_0, zO_1, li_0, li_1, li_2, li_3, li_4, li_5, li_6, li_7, li_8, li_9, li_10, li_12, li_14, li_15, li_16, li_18, li_19, li_20, li_22, li_23, li_24, li_26, li_29, li_30, li_31, li_32, li_36, li_38, li_48, li_50, li_57, li_58, li_59, li_60, li_63, li_97, li_99, li_120, li_122, li_144, li_168, li_194, li_240, li_255, li_284, li_299, li_603, li_999, li_1200, li_1440, li_4095, li_4096, li_6030, li_16384, li_20160, zl0, zl1, zl2, zl3, zl4, ze01, ze02, ze03, ze04, ze10, ze12, ze13, ze14, ze20, ze21, ze23, ze24, ze30, ze31, ze32, ze34, ze40, ze41, ze42, ze43, zt0, zt1, zt2, zt3, zt4, zq0, zq1, zq2, zq3, zq4, it_t, it_f, Bool.true_eq_false, Bool.false_eq_true, na5, na4, na1441, na2, na10, sx_IOIA, sx_IOIS, sx_IONS, sx_IAIO, sx_IAIS, sx_IANS, sx_ISIO, sx_ISIA, sx_ISNS, sx_NSIO, sx_NSIA, sx_NSIS, c_cR_gi S5, f5, f4, sub, nI_leI]
        refine aJ_gen (R := fun o => OK o _) (fun k227 hk227 => ?_)
        have fin2 : ∀ t, t = tok tx n s → OK (k227 (nI t) h5) (fun _ h1 => Fx TKx h h1 ∧ LKd tx n h1 s ∧ h_iv h1 3 6 = nI s0) := fun t e => by
          rw [hk227]
          simp (maxSteps := 3000000) (disch := first | assumption | omega) only [bO_v, bR_v, bX_l, bX_r, bC_l, bC_r, aLet_v, nI_add, pk_mul, dvI_n, rmI_n, iMax_n, iMin_n, zO_0, zO_1, li_0, li_1, li_2, li_3, li_4, li_5, li_6, li_7, li_8, li_9, li_10, li_12, li_14, li_15, li_16, li_18, li_19, li_20, li_22, li_23, li_24, li_26, li_29, li_30, li_31, li_32, li_36, li_38, li_48, li_50, li_57, li_58, li_59, li_60, li_63, li_97, li_99, li_120, li_122, li_144, li_168, li_194, li_240, li_255, li_284, li_299, li_603, li_999, li_1200, li_1440, li_4095, li_4096, li_6030, li_16384, li_20160, zl0, zl1, zl2, zl3, zl4, ze01, ze02, ze03, ze04, ze10, ze12, ze13, ze14, ze20, ze21, ze23, ze24, ze30, ze31, ze32, ze34, ze40, ze41, ze42, ze43, zt0, zt1, zt2, zt3, zt4, zq0, zq1, zq2, zq3, zq4, it_t, it_f, Bool.true_eq_false, Bool.false_eq_true, na5, na4, na1441, na2, na10, sx_IOIA, sx_IOIS, sx_IONS, sx_IAIO, sx_IAIS, sx_IANS, sx_ISIO, sx_ISIA, sx_ISNS, sx_NSIO, sx_NSIA, sx_NSIS, c_cR_pi S5]
          exact fin _ t _ (F5'.trans (hT (by omega) (by omega))) (by rw [si_ne (by omega)]; exact f4) (by rw [si_ne (by omega)]; exact f6) si_at (by rw [si_ne (by omega)]; exact f5) e en.symm
        by_cases c5 : dle tx n s ≤ 5
        · rw [if_pos c5] at et ⊢
          exact fin2 2 et.symm
        · rw [if_neg c5] at et ⊢
          exact fin2 0 et.symm
    · rw [if_neg (by decide)]
      have rl := run_step (q := isLt) hlt cl
      have en : nxt tx n s = s + wle tx n s := by unfold nxt; rw [if_neg (by omega), cl, if_pos rfl]
      have et : tok tx n s = 1 := by unfold tok; rw [if_neg (by omega), cl, if_pos rfl]
      simp (maxSteps := 3000000) (disch := first | assumption | omega) only [bO_v, bR_v, bX_l, bX_r, bC_l, bC_r, aLet_v, nI_add, pk_mul, dvI_n, rmI_n, iMax_n, iMin_n, zO_0, zO_1, li_0, li_1, li_2, li_3, li_4, li_5, li_6, li_7, li_8, li_9, li_10, li_12, li_14, li_15, li_16, li_18, li_19, li_20, li_22, li_23, li_24, li_26, li_29, li_30, li_31, li_32, li_36, li_38, li_48, li_50, li_57, li_58, li_59, li_60, li_63, li_97, li_99, li_120, li_122, li_144, li_168, li_194, li_240, li_255, li_284, li_299, li_603, li_999, li_1200, li_1440, li_4095, li_4096, li_6030, li_16384, li_20160, zl0, zl1, zl2, zl3, zl4, ze01, ze02, ze03, ze04, ze10, ze12, ze13, ze14, ze20, ze21, ze23, ze24, ze30, ze31, ze32, ze34, ze40, ze41, ze42, ze43, zt0, zt1, zt2, zt3, zt4, zq0, zq1, zq2, zq3, zq4, it_t, it_f, Bool.true_eq_false, Bool.false_eq_true, na5, na4, na1441, na2, na10, sx_IOIA, sx_IOIS, sx_IONS, sx_IAIO, sx_IAIS, sx_IANS, sx_ISIO, sx_ISIA, sx_ISNS, sx_NSIO, sx_NSIA, sx_NSIS, c_cR_pi S4]
      have F5 : Fx TKx h (h_si h4 3 3 (nI 1)) := F4.trans (hT (by omega) (by omega))
      have S5 := F5.sh hS
      have X5 : TX tx n (h_si h4 3 3 (nI 1)) := ⟨X1, fun k hk => ⟨(X2 k hk).1, by rw [F5.iv (by unfold TKx; omega)]; exact (X2 k hk).2⟩⟩
      refine k_runL (p := s + 1) (Z := fun o => OK o _) S5 X5 (by rw [si_ne (by omega)]; exact g14) (by rw [si_ne (by omega)]; exact g54) hlt (fun h6 F6 f5 => ?_)
      refine fin h6 1 _ (F5.trans (F6.mono (fun o k q => ⟨q.1, by omega, by omega⟩))) (by rw [F6.iv (by omega), si_ne (by omega)]; exact g44) (by rw [F6.iv (by omega), si_ne (by omega)]; exact g64) (by rw [F6.iv (by omega), si_at]) f5 et.symm ?_
      rw [en]
      unfold wle
      omega
  · obtain rfl : s = n := by omega
    rw [if_neg hlt]
    have et : tok tx s s = 5 := tok5.mpr (Nat.le_refl _)
    have en : nxt tx s s = s := by unfold nxt; rw [if_pos (Nat.le_refl _)]
    simp (maxSteps := 3000000) (disch := first | assumption | omega) only [c_cR_pi S3, bO_v, bR_v, bX_l, bX_r, bC_l, bC_r, aLet_v, nI_add, pk_mul, dvI_n, rmI_n, iMax_n, iMin_n, zO_0, zO_1, li_0, li_1, li_2, li_3, li_4, li_5, li_6, li_7, li_8, li_9, li_10, li_12, li_14, li_15, li_16, li_18, li_19, li_20, li_22, li_23, li_24, li_26, li_29, li_30, li_31, li_32, li_36, li_38, li_48, li_50, li_57, li_58, li_59, li_60, li_63, li_97, li_99, li_120, li_122, li_144, li_168, li_194, li_240, li_255, li_284, li_299, li_603, li_999, li_1200, li_1440, li_4095, li_4096, li_6030, li_16384, li_20160, zl0, zl1, zl2, zl3, zl4, ze01, ze02, ze03, ze04, ze10, ze12, ze13, ze14, ze20, ze21, ze23, ze24, ze30, ze31, ze32, ze34, ze40, ze41, ze42, ze43, zt0, zt1, zt2, zt3, zt4, zq0, zq1, zq2, zq3, zq4, it_t, it_f, Bool.true_eq_false, Bool.false_eq_true, na5, na4, na1441, na2, na10, sx_IOIA, sx_IOIS, sx_IONS, sx_IAIO, sx_IAIS, sx_IANS, sx_ISIO, sx_ISIA, sx_ISNS, sx_NSIO, sx_NSIA, sx_NSIS]
    exact ok_ret ⟨F3.trans (hT (by omega) (by omega)), ⟨by rw [et, si_at], by rw [si_ne (by omega), si_at], by rw [en, si_ne (by omega)]; exact g53⟩, by rw [si_ne (by omega), si_ne (by omega)]; exact g6⟩
end
