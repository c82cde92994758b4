/-! the class's reader: a person -/
/-- cells of the plan were written (A), and the reader's; one name (of B) -/
def QW (A : Nat → Nat → Prop) (B : Nat) (h h1 : aH) : Prop := h_rv h1 = h_rv h ∧ (∀ o k, o ≠ 3 → ¬ A o k → h_iv h1 o k = h_iv h o k) ∧ ∀ o k, o ≠ 3 → ¬ (o = B ∧ k = 0) → h_lv h1 o k = h_lv h o k
theorem QW.trans {A : Nat → Nat → Prop} {B : Nat} {h h1 h2 : aH} (x : QW A B h h1) (y : QW A B h1 h2) : QW A B h h2 := ⟨y.1.trans x.1, fun o k q1 q2 => (y.2.1 o k q1 q2).trans (x.2.1 o k q1 q2), fun o k q1 q2 => (y.2.2 o k q1 q2).trans (x.2.2 o k q1 q2)⟩
theorem RF.qw {A : Nat → Nat → Prop} {B : Nat} {h h1 : aH} (x : RF h h1) : QW A B h h1 := ⟨x.2.2.2.2.1, fun o k q1 _ => x.2.2.2.2.2.1 o k q1, fun o k q1 _ => x.2.2.2.2.2.2 o k q1⟩
theorem QW.fx {A : Nat → Nat → Prop} {B : Nat} {h h1 : aH} (x : Fx A h h1) : QW A B h h1 := ⟨x.2.2.2.2.1, fun o k _ q => x.iv q, fun o k _ _ => by rw [x.2.2.2.2.2.1]⟩
section
variable {h h0 : aH} {tx : Nat → Nat} {n Q s : Nat} {M : Nat → Nat → Nat}
theorem CS.sL (C : CS tx n Q h0 h s) {B : Nat} {y : Int64} (hB : Q ≤ B ∧ B < Q + 65) : CS tx n Q h0 (h_sL h B 0 y) s := by
  obtain ⟨c1, c2, c3, c4, l, c6, c7⟩ := C
  have k : KX Q h (h_sL h B 0 y) := ⟨rfl, rfl, rfl, rfl, fun _ _ _ => rfl, fun _ _ _ => rfl, fun o k q => u2n (by omega)⟩
  exact ⟨k.sh c1, c2.trans k, c3, c4, l, c6, c7⟩
theorem QW.sL {A : Nat → Nat → Prop} {B : Nat} {y : Int64} : QW A B h (h_sL h B 0 y) := ⟨rfl, fun _ _ _ _ => rfl, fun o k _ q => u2n (fun e => q e)⟩
theorem sk_or : ∀ a, a < 16 → ∀ k, k < 16 → (16 + a) ||| k = 16 + (a ||| k) ∧ (16 + a) &&& k = a &&& k := by decide +kernel
theorem k_addPerson (hS : Sh h) (hQ : Q ∈ plL) {p sk : Nat} (hp : p < 12) (hk : sk < 16) (ec : h_iv h Q 1 = nI p) (es : h_iv h (Q + 8 + 1 * p) 2 = nI (16 + sk)) {f : Nat → Nat} (ef : ∀ k, k < 32 → h_iv h (Q + 7) k = nI (mk (fun q => decide (k &&& (16 + f q) ≠ 0)) p)) (fp : f p = sk) :
    OK (m_X8_addPerson Q h) (fun _ h1 => Fx (fun o k => (o = Q ∧ k = 1) ∨ o = Q + 7) h h1 ∧ h_iv h1 Q 1 = nI (p + 1) ∧ ∀ k, k < 32 → h_iv h1 (Q + 7) k = nI (mk (fun q => decide (k &&& (16 + f q) ≠ 0)) (p + 1))) := by
  simp only [m_X8_addPerson]
  refine aJ_gen (R := fun o => OK o _) (fun k46 hk46 => ?_)
  refine aL1_run (R := fun o => OK o _) (fun m s1 h2 => ∃ i, i ≤ 32 ∧ m = 32 - i ∧ s1 = nI i ∧ Fx (fun o _ => o = Q + 7) h h2 ∧ ∀ k, k < 32 → h_iv h2 (Q + 7) k = nI (mk (fun q => decide (k &&& (16 + f q) ≠ 0)) (if k < i then p + 1 else p))) ⟨0, Nat.zero_le _, rfl, rfl, Fx.rf, fun k hk => by rw [if_neg (by omega)]; exact ef k hk⟩ (by omega) ?_
  rintro rec m s1 h2 ⟨i, hi, rfl, rfl, F2, g2⟩ ih
  have S2 := F2.sh hS
  have c2 : h_iv h2 Q 1 = nI p := by rw [F2.iv (by omega)]; exact ec
  by_cases hlt : i < 32
  · have e2 : h_iv h2 (Q + 8 + 1 * p) 2 = nI (16 + sk) := by rw [F2.iv (by omega)]; exact es
    have gi := g2 i hlt
    rw [if_neg (Nat.lt_irrefl i)] at gi
    have al : i &&& (16 + sk) < 4096 := Nat.lt_of_le_of_lt Nat.and_le_left (by omega)
    have an : nI i &&& nI (16 + sk) = nI (i &&& (16 + sk)) := fa_and _ _
    have ml := mk_lt (q := fun q => decide (i &&& (16 + f q) ≠ 0)) p
    have pl : 2 ^ p ≤ 2 ^ 12 := Nat.pow_le_pow_right (by decide) (by omega)
    have p12 : (2 : Nat) ^ 12 = 4096 := by decide
    simp (maxSteps := 3000000) (disch := first | assumption | omega) only [m_X8_addPerson_L2, bO_v, bR_v, bX_l, bX_r, bC_l, bC_r, aLet_v, nI_add, pk_mul, dvI_n, rmI_n, iMax_n, iMin_n, zO_0, zO_1, li_0, li_1, li_2, li_3, li_4, li_5, li_6, li_7, li_8, li_9, li_10, li_12, li_14, li_15, li_16, li_18, li_19, li_20, li_22, li_23, li_24, li_26, li_29, li_30, li_31, li_32, li_36, li_38, li_48, li_50, li_57, li_58, li_59, li_60, li_63, li_97, li_99, li_120, li_122, li_144, li_168, li_194, li_240, li_255, li_284, li_299, li_603, li_999, li_1200, li_1440, li_4095, li_4096, li_6030, li_16384, li_20160, zl0, zl1, zl2, zl3, zl4, ze01, ze02, ze03, ze04, ze10, ze12, ze13, ze14, ze20, ze21, ze23, ze24, ze30, ze31, ze32, ze34, ze40, ze41, ze42, ze43, zt0, zt1, zt2, zt3, zt4, zq0, zq1, zq2, zq3, zq4, it_t, it_f, Bool.true_eq_false, Bool.false_eq_true, na5, na4, na1441, na2, na10, sx_IOIA, sx_IOIS, sx_IONS, sx_IAIO, sx_IAIS, sx_IANS, sx_ISIO, sx_ISIA, sx_ISNS, sx_NSIO, sx_NSIA, sx_NSIS, nI_ltI, p_pps S2 hQ, p_cP_gi S2 hQ, c2, p_ep_al S2 hQ, p_ep_gi S2 hQ, e2, an, nI_eq]
    rw [if_pos hlt]
    refine aJ_gen (R := fun o => OK o _) (fun k40 hk40 => ?_)
    have mk1 : mk (fun q => decide (i &&& (16 + f q) ≠ 0)) (p + 1) = mk (fun q => decide (i &&& (16 + f q) ≠ 0)) p ||| (if i &&& (16 + sk) = 0 then 0 else 2 ^ p) := by
      rw [mk, fp]
      by_cases c : i &&& (16 + sk) = 0
      · rw [if_pos c, decide_eq_false (fun q => q c)]; rfl
      · rw [if_neg c, decide_eq_true c]; rfl
    by_cases c : i &&& (16 + sk) = 0
    · rw [if_pos c, hk40]
      rw [if_pos c, Nat.or_zero] at mk1
      simp only [bO_v, bR_v, bX_l, bX_r, bC_l, bC_r, aLet_v, nI_add, pk_mul, dvI_n, rmI_n, iMax_n, iMin_n, zO_0, zO_1, li_0, li_1, li_2, li_3, li_4, li_5, li_6, li_7, li_8, li_9, li_10, li_12, li_14, li_15, li_16, li_18, li_19, li_20, li_22, li_23, li_24, li_26, li_29, li_30, li_31, li_32, li_36, li_38, li_48, li_50, li_57, li_58, li_59, li_60, li_63, li_97, li_99, li_120, li_122, li_144, li_168, li_194, li_240, li_255, li_284, li_299, li_603, li_999, li_1200, li_1440, li_4095, li_4096, li_6030, li_16384, li_20160, zl0, zl1, zl2, zl3, zl4, ze01, ze02, ze03, ze04, ze10, ze12, ze13, ze14, ze20, ze21, ze23, ze24, ze30, ze31, ze32, ze34, ze40, ze41, ze42, ze43, zt0, zt1, zt2, zt3, zt4, zq0, zq1, zq2, zq3, zq4, it_t, it_f, Bool.true_eq_false, Bool.false_eq_true, na5, na4, na1441, na2, na10, sx_IOIA, sx_IOIS, sx_IONS, sx_IAIO, sx_IAIS, sx_IANS, sx_ISIO, sx_ISIA, sx_ISNS, sx_NSIO, sx_NSIA, sx_NSIS]
      refine ih _ _ _ (by omega) ⟨i + 1, hlt, rfl, rfl, F2, fun k hk => ?_⟩
      by_cases ck : k = i
      · rw [ck, if_pos (by omega), mk1]; exact gi
      · rw [g2 k hk]
        by_cases c3 : k < i
        · rw [if_pos c3, if_pos (by omega)]
        · rw [if_neg c3, if_neg (by omega)]
    · rw [if_neg c] at mk1 ⊢
      simp (maxSteps := 3000000) (disch := first | assumption | omega) only [p_pable S2 hQ, p_cable_al S2 hQ, gi, p_cP_gi S2 hQ, c2, shl1_n, fa_or, p_cable_as S2 hQ, bO_v, bR_v, bX_l, bX_r, bC_l, bC_r, aLet_v, nI_add, pk_mul, dvI_n, rmI_n, iMax_n, iMin_n, zO_0, zO_1, li_0, li_1, li_2, li_3, li_4, li_5, li_6, li_7, li_8, li_9, li_10, li_12, li_14, li_15, li_16, li_18, li_19, li_20, li_22, li_23, li_24, li_26, li_29, li_30, li_31, li_32, li_36, li_38, li_48, li_50, li_57, li_58, li_59, li_60, li_63, li_97, li_99, li_120, li_122, li_144, li_168, li_194, li_240, li_255, li_284, li_299, li_603, li_999, li_1200, li_1440, li_4095, li_4096, li_6030, li_16384, li_20160, zl0, zl1, zl2, zl3, zl4, ze01, ze02, ze03, ze04, ze10, ze12, ze13, ze14, ze20, ze21, ze23, ze24, ze30, ze31, ze32, ze34, ze40, ze41, ze42, ze43, zt0, zt1, zt2, zt3, zt4, zq0, zq1, zq2, zq3, zq4, it_t, it_f, Bool.true_eq_false, Bool.false_eq_true, na5, na4, na1441, na2, na10, sx_IOIA, sx_IOIS, sx_IONS, sx_IAIO, sx_IAIS, sx_IANS, sx_ISIO, sx_ISIA, sx_ISNS, sx_NSIO, sx_NSIA, sx_NSIS, hk40]
      refine ih _ _ _ (by omega) ⟨i + 1, hlt, rfl, rfl, F2.trans (Fx.si (A := fun o _ => o = Q + 7) rfl), fun k hk => ?_⟩
      by_cases ck : k = i
      · rw [ck, if_pos (by omega), mk1, si_at]
      · rw [si_ne (by omega), g2 k hk]
        by_cases c3 : k < i
        · rw [if_pos c3, if_pos (by omega)]
        · rw [if_neg c3, if_neg (by omega)]
  · obtain rfl : i = 32 := by omega
    simp (maxSteps := 3000000) (disch := first | assumption | omega) only [m_X8_addPerson_L2, bO_v, bR_v, bX_l, bX_r, bC_l, bC_r, aLet_v, nI_add, pk_mul, dvI_n, rmI_n, iMax_n, iMin_n, zO_0, zO_1, li_0, li_1, li_2, li_3, li_4, li_5, li_6, li_7, li_8, li_9, li_10, li_12, li_14, li_15, li_16, li_18, li_19, li_20, li_22, li_23, li_24, li_26, li_29, li_30, li_31, li_32, li_36, li_38, li_48, li_50, li_57, li_58, li_59, li_60, li_63, li_97, li_99, li_120, li_122, li_144, li_168, li_194, li_240, li_255, li_284, li_299, li_603, li_999, li_1200, li_1440, li_4095, li_4096, li_6030, li_16384, li_20160, zl0, zl1, zl2, zl3, zl4, ze01, ze02, ze03, ze04, ze10, ze12, ze13, ze14, ze20, ze21, ze23, ze24, ze30, ze31, ze32, ze34, ze40, ze41, ze42, ze43, zt0, zt1, zt2, zt3, zt4, zq0, zq1, zq2, zq3, zq4, it_t, it_f, Bool.true_eq_false, Bool.false_eq_true, na5, na4, na1441, na2, na10, sx_IOIA, sx_IOIS, sx_IONS, sx_IAIO, sx_IAIS, sx_IANS, sx_ISIO, sx_ISIA, sx_ISNS, sx_NSIO, sx_NSIA, sx_NSIS, nI_ltI, hk46, p_cP_gi S2 hQ, c2, p_cP_pi S2 hQ]
    rw [if_neg hlt]
    refine ok_ret ⟨(F2.mono (fun o k q => Or.inr q)).trans (Fx.si (Or.inl ⟨rfl, rfl⟩)), si_at, fun k hk => ?_⟩
    rw [si_ne (by omega), g2 k hk, if_pos hk]
theorem k_person (X : TX tx n h0) (hQ : Q ∈ plL) (C : CS tx n Q h0 h s) (p : PQ tx n Q M h) (w : WM M) (hs : s < n) : CP Q h0 (m_X9_readsPerson 3 h) (sPerson tx n M s) (fun r h1 => CS tx n Q h0 h1 r.2 ∧ PQ tx n Q r.1 h1) := by
  have q := pl_in Q hQ
  have hD := w.1
  have d0 := hD.nP
  have d1 := hD.nG
  have d2 := hD.nE
  have d3 := hD.nK
  have x1 := X.1
  have S0 := C.1
  simp (maxSteps := 3000000) (disch := first | assumption | omega) only [m_X9_readsPerson, bO_v, bR_v, bX_l, bX_r, bC_l, bC_r, aLet_v, nI_add, pk_mul, dvI_n, rmI_n, iMax_n, iMin_n, zO_0, zO_1, li_0, li_1, li_2, li_3, li_4, li_5, li_6, li_7, li_8, li_9, li_10, li_12, li_14, li_15, li_16, li_18, li_19, li_20, li_22, li_23, li_24, li_26, li_29, li_30, li_31, li_32, li_36, li_38, li_48, li_50, li_57, li_58, li_59, li_60, li_63, li_97, li_99, li_120, li_122, li_144, li_168, li_194, li_240, li_255, li_284, li_299, li_603, li_999, li_1200, li_1440, li_4095, li_4096, li_6030, li_16384, li_20160, zl0, zl1, zl2, zl3, zl4, ze01, ze02, ze03, ze04, ze10, ze12, ze13, ze14, ze20, ze21, ze23, ze24, ze30, ze31, ze32, ze34, ze40, ze41, ze42, ze43, zt0, zt1, zt2, zt3, zt4, zq0, zq1, zq2, zq3, zq4, it_t, it_f, Bool.true_eq_false, Bool.false_eq_true, na5, na4, na1441, na2, na10, sx_IOIA, sx_IOIS, sx_IONS, sx_IAIO, sx_IAIS, sx_IANS, sx_ISIO, sx_ISIA, sx_ISNS, sx_NSIO, sx_NSIA, sx_NSIS, C.g2 hQ, p_cP_gi S0 hQ, p.1.nP, nI_ltI, c_cR_gS S0]
  unfold sPerson
  by_cases c12 : 12 ≤ M 412 8
  · rw [if_neg (by omega), if_pos c12]
    obtain ⟨h1, e1, q1, -⟩ := k_fails C (c := 5)
    simp (maxSteps := 3000000) (disch := first | assumption | omega) only [e1, bO_v, bR_v, bX_l, bX_r, bC_l, bC_r, aLet_v, nI_add, pk_mul, dvI_n, rmI_n, iMax_n, iMin_n, zO_0, zO_1, li_0, li_1, li_2, li_3, li_4, li_5, li_6, li_7, li_8, li_9, li_10, li_12, li_14, li_15, li_16, li_18, li_19, li_20, li_22, li_23, li_24, li_26, li_29, li_30, li_31, li_32, li_36, li_38, li_48, li_50, li_57, li_58, li_59, li_60, li_63, li_97, li_99, li_120, li_122, li_144, li_168, li_194, li_240, li_255, li_284, li_299, li_603, li_999, li_1200, li_1440, li_4095, li_4096, li_6030, li_16384, li_20160, zl0, zl1, zl2, zl3, zl4, ze01, ze02, ze03, ze04, ze10, ze12, ze13, ze14, ze20, ze21, ze23, ze24, ze30, ze31, ze32, ze34, ze40, ze41, ze42, ze43, zt0, zt1, zt2, zt3, zt4, zq0, zq1, zq2, zq3, zq4, it_t, it_f, Bool.true_eq_false, Bool.false_eq_true, na5, na4, na1441, na2, na10, sx_IOIA, sx_IOIS, sx_IONS, sx_IAIO, sx_IAIS, sx_IANS, sx_ISIO, sx_ISIA, sx_ISNS, sx_NSIO, sx_NSIA, sx_NSIS]
    exact cp_inl rfl q1
  · rw [if_pos (by omega), if_neg c12]
    obtain ⟨_, h1, e1, C1, R1, -⟩ := k_takeC X hQ C hs
    have S1 := C1.1
    have p1 := p.rf R1 hD hQ
    simp (maxSteps := 3000000) (disch := first | assumption | omega) only [e1, bO_v, bR_v, bX_l, bX_r, bC_l, bC_r, aLet_v, nI_add, pk_mul, dvI_n, rmI_n, iMax_n, iMin_n, zO_0, zO_1, li_0, li_1, li_2, li_3, li_4, li_5, li_6, li_7, li_8, li_9, li_10, li_12, li_14, li_15, li_16, li_18, li_19, li_20, li_22, li_23, li_24, li_26, li_29, li_30, li_31, li_32, li_36, li_38, li_48, li_50, li_57, li_58, li_59, li_60, li_63, li_97, li_99, li_120, li_122, li_144, li_168, li_194, li_240, li_255, li_284, li_299, li_603, li_999, li_1200, li_1440, li_4095, li_4096, li_6030, li_16384, li_20160, zl0, zl1, zl2, zl3, zl4, ze01, ze02, ze03, ze04, ze10, ze12, ze13, ze14, ze20, ze21, ze23, ze24, ze30, ze31, ze32, ze34, ze40, ze41, ze42, ze43, zt0, zt1, zt2, zt3, zt4, zq0, zq1, zq2, zq3, zq4, it_t, it_f, Bool.true_eq_false, Bool.false_eq_true, na5, na4, na1441, na2, na10, sx_IOIA, sx_IOIS, sx_IONS, sx_IAIO, sx_IAIS, sx_IANS, sx_ISIO, sx_ISIA, sx_ISNS, sx_NSIO, sx_NSIA, sx_NSIS, C1.g2 hQ, p_pps S1 hQ, p_cP_gi S1 hQ, p1.1.nP, p_ep_al S1 hQ, c_cR_gS S1]
    refine sb_cp (k_newName X hQ C1 p1 hD (so := 0) (by omega)) (fun s2 h2 e2 hh => ?_)
    obtain ⟨C2, R2, g8⟩ := hh
    obtain ⟨nd, -⟩ := sNew_inr e2
    have S2 := C2.1
    have p2 := p1.rf R2 hD hQ
    have C3 := C2.sL (B := Q + 8 + 1 * M 412 8) (y := lN (nm32 tx n (adv tx n s))) (by omega)
    simp (maxSteps := 3000000) (disch := first | assumption | omega) only [c_cR_gL S2, g8, p_ep_pL S2 hQ, bO_v, bR_v, bX_l, bX_r, bC_l, bC_r, aLet_v, nI_add, pk_mul, dvI_n, rmI_n, iMax_n, iMin_n, zO_0, zO_1, li_0, li_1, li_2, li_3, li_4, li_5, li_6, li_7, li_8, li_9, li_10, li_12, li_14, li_15, li_16, li_18, li_19, li_20, li_22, li_23, li_24, li_26, li_29, li_30, li_31, li_32, li_36, li_38, li_48, li_50, li_57, li_58, li_59, li_60, li_63, li_97, li_99, li_120, li_122, li_144, li_168, li_194, li_240, li_255, li_284, li_299, li_603, li_999, li_1200, li_1440, li_4095, li_4096, li_6030, li_16384, li_20160, zl0, zl1, zl2, zl3, zl4, ze01, ze02, ze03, ze04, ze10, ze12, ze13, ze14, ze20, ze21, ze23, ze24, ze30, ze31, ze32, ze34, ze40, ze41, ze42, ze43, zt0, zt1, zt2, zt3, zt4, zq0, zq1, zq2, zq3, zq4, it_t, it_f, Bool.true_eq_false, Bool.false_eq_true, na5, na4, na1441, na2, na10, sx_IOIA, sx_IOIS, sx_IONS, sx_IAIO, sx_IAIS, sx_IANS, sx_ISIO, sx_ISIA, sx_ISNS, sx_NSIO, sx_NSIA, sx_NSIS, c_cR_gS C3.1]
    refine sb_cp (k_number X hQ C3 (by omega) (by omega)) (fun v h4 e4 hh => ?_)
    obtain ⟨C4, R4, g7, -⟩ := hh
    obtain ⟨-, -, v3, -⟩ := sNum_inr e4
    have S4 := C4.1
    have S5 : Sh (h_si h4 (Q + 8 + 1 * M 412 8) 1 (nI v.1)) := S4.si _ _ _
    simp (maxSteps := 3000000) (disch := first | assumption | omega) only [c_cR_gi S4, g7, p_ep_pi S4 hQ, p_ep_pi S5 hQ, bO_v, bR_v, bX_l, bX_r, bC_l, bC_r, aLet_v, nI_add, pk_mul, dvI_n, rmI_n, iMax_n, iMin_n, zO_0, zO_1, li_0, li_1, li_2, li_3, li_4, li_5, li_6, li_7, li_8, li_9, li_10, li_12, li_14, li_15, li_16, li_18, li_19, li_20, li_22, li_23, li_24, li_26, li_29, li_30, li_31, li_32, li_36, li_38, li_48, li_50, li_57, li_58, li_59, li_60, li_63, li_97, li_99, li_120, li_122, li_144, li_168, li_194, li_240, li_255, li_284, li_299, li_603, li_999, li_1200, li_1440, li_4095, li_4096, li_6030, li_16384, li_20160, zl0, zl1, zl2, zl3, zl4, ze01, ze02, ze03, ze04, ze10, ze12, ze13, ze14, ze20, ze21, ze23, ze24, ze30, ze31, ze32, ze34, ze40, ze41, ze42, ze43, zt0, zt1, zt2, zt3, zt4, zq0, zq1, zq2, zq3, zq4, it_t, it_f, Bool.true_eq_false, Bool.false_eq_true, na5, na4, na1441, na2, na10, sx_IOIA, sx_IOIS, sx_IONS, sx_IAIO, sx_IAIS, sx_IANS, sx_ISIO, sx_ISIA, sx_ISNS, sx_NSIO, sx_NSIA, sx_NSIS]
    have F6 : Fx (fun o _ => o = Q + 8 + 1 * M 412 8) h4 (h_si (h_si h4 (Q + 8 + 1 * M 412 8) 1 (nI v.1)) (Q + 8 + 1 * M 412 8) 2 (nI 16)) := (Fx.si (A := fun o _ => o = Q + 8 + 1 * M 412 8) rfl).trans (Fx.si (A := fun o _ => o = Q + 8 + 1 * M 412 8) rfl)
    have b1 : h_iv (h_si (h_si h4 (Q + 8 + 1 * M 412 8) 1 (nI v.1)) (Q + 8 + 1 * M 412 8) 2 (nI 16)) (Q + 8 + 1 * M 412 8) 1 = nI v.1 := by rw [si_ne (by omega), si_at]
    have b2 : h_iv (h_si (h_si h4 (Q + 8 + 1 * M 412 8) 1 (nI v.1)) (Q + 8 + 1 * M 412 8) 2 (nI 16)) (Q + 8 + 1 * M 412 8) 2 = nI (16 + 0) := si_at
    generalize h_si (h_si h4 (Q + 8 + 1 * M 412 8) 1 (nI v.1)) (Q + 8 + 1 * M 412 8) 2 (nI 16) = h6 at F6 b1 b2
    have C6 := C4.qx hQ F6 (fun o k a => by omega)
    have W6 : QW (fun o _ => o = Q + 8 + 1 * M 412 8) (Q + 8 + 1 * M 412 8) h2 h6 := (QW.sL.trans R4.qw).trans (QW.fx F6)
    have l6 : h_lv h6 (Q + 8 + 1 * M 412 8) 0 = lN (nm32 tx n (adv tx n s)) := by
      rw [F6.2.2.2.2.2.1, R4.2.2.2.2.2.2 _ _ (by omega)]
      exact sL_at
    have vs := C4.2.2.2.2.2.1
    generalize hK : (fun (r : (Nat → Nat → Nat) × Nat) (h1 : aH) => CS tx n Q h0 h1 r.2 ∧ PQ tx n Q r.1 h1) = K
    refine aJ_gen (R := fun o => CP Q h0 o _ K) (fun k149 hk149 => ?_)
    refine aJ_gen (R := fun o => CP Q h0 o _ K) (fun k123 hk123 => ?_)
    refine aJ_gen (R := fun o => CP Q h0 o _ K) (fun k108 hk108 => ?_)
    refine aL1_run (R := fun o => CP Q h0 o (sb (sSkills tx n (n + 1) 0 v.2) fun a => .inr (put (put (put (put M 419 (M 412 8) (adv tx n s)) 420 (M 412 8) v.1) 421 (M 412 8) a.1) 412 8 (M 412 8 + 1), a.2)) K) (fun m s1 h7 => ∃ f acc s' i, m = f ∧ s1 = nI i ∧ i ≤ s' ∧ n < s' + f ∧ sSkills tx n (n + 1) 0 v.2 = sSkills tx n f acc s' ∧ acc < 16 ∧ CS tx n Q h0 h7 s' ∧ QW (fun o _ => o = Q + 8 + 1 * M 412 8) (Q + 8 + 1 * M 412 8) h2 h7 ∧ h_iv h7 (Q + 8 + 1 * M 412 8) 1 = nI v.1 ∧ h_iv h7 (Q + 8 + 1 * M 412 8) 2 = nI (16 + acc) ∧ h_lv h7 (Q + 8 + 1 * M 412 8) 0 = lN (nm32 tx n (adv tx n s))) ⟨n + 1, 0, v.2, 0, rfl, rfl, Nat.zero_le _, by omega, rfl, by omega, C6, W6, b1, b2, l6⟩ (by omega) ?_
    rintro rec m s1 h7 ⟨f, acc, s', i, rfl, rfl, hi, hf, es, ha, C7, W7, g71, g72, l7⟩ ih
    have S7 := C7.1
    have sn := C7.2.2.2.2.2.1
    have t6 := tok_lt6 (tx := tx) (n := n) (s := s')
    have mp := C7.g2 hQ
    cases m with
    | zero => omega
    | succ f =>
      rw [es]
      rw [sSkills]
      by_cases ct : tok tx n s' ≠ 1
      · rw [if_pos ct]
        have go : CP Q h0 (k149 h7) (.inr (put (put (put (put M 419 (M 412 8) (adv tx n s)) 420 (M 412 8) v.1) 421 (M 412 8) acc) 412 8 (M 412 8 + 1), s')) K := by
          obtain ⟨M', hM⟩ : ∃ M', M' = put (put (put (put M 419 (M 412 8) (adv tx n s)) 420 (M 412 8) v.1) 421 (M 412 8) acc) 412 8 (M 412 8 + 1) := ⟨_, rfl⟩
          have e : ∀ o k, ¬ ((o = 412 ∧ k = 8) ∨ o = 419 ∨ ((o = 420 ∨ o = 421) ∧ k = M 412 8)) → M' o k = M o k := fun o k q => by
            rw [hM, put_n (by omega), put_n (by omega), put_n (by omega), put_n (by omega)]
          have m8 : M' 412 8 = M 412 8 + 1 := by rw [hM]; exact put_e
          have m5 : ∀ k, M' 419 k = if k = M 412 8 then adv tx n s else M 419 k := fun k => by
            rw [hM, put_n (by omega), put_n (by omega), put_n (by omega)]
            by_cases c : k = M 412 8
            · rw [if_pos c, c, put_e]
            · rw [if_neg c, put_n (by omega)]
          have m6 : M' 420 (M 412 8) = v.1 := by rw [hM, put_n (by omega), put_n (by omega), put_e]
          have m7 : M' 421 (M 412 8) = acc := by rw [hM, put_n (by omega), put_e]
          rw [← hM]
          have iv : ∀ o k, o ≠ 3 → o ≠ Q + 8 + 1 * M 412 8 → h_iv h7 o k = h_iv h2 o k := W7.2.1
          rw [hk149]
          simp (maxSteps := 3000000) (disch := first | assumption | omega) only [mp, p_cP_gS S7 hQ, bO_v, bR_v, bX_l, bX_r, bC_l, bC_r, aLet_v, nI_add, pk_mul, dvI_n, rmI_n, iMax_n, iMin_n, zO_0, zO_1, li_0, li_1, li_2, li_3, li_4, li_5, li_6, li_7, li_8, li_9, li_10, li_12, li_14, li_15, li_16, li_18, li_19, li_20, li_22, li_23, li_24, li_26, li_29, li_30, li_31, li_32, li_36, li_38, li_48, li_50, li_57, li_58, li_59, li_60, li_63, li_97, li_99, li_120, li_122, li_144, li_168, li_194, li_240, li_255, li_284, li_299, li_603, li_999, li_1200, li_1440, li_4095, li_4096, li_6030, li_16384, li_20160, zl0, zl1, zl2, zl3, zl4, ze01, ze02, ze03, ze04, ze10, ze12, ze13, ze14, ze20, ze21, ze23, ze24, ze30, ze31, ze32, ze34, ze40, ze41, ze42, ze43, zt0, zt1, zt2, zt3, zt4, zq0, zq1, zq2, zq3, zq4, it_t, it_f, Bool.true_eq_false, Bool.false_eq_true, na5, na4, na1441, na2, na10, sx_IOIA, sx_IOIS, sx_IONS, sx_IAIO, sx_IAIS, sx_IANS, sx_ISIO, sx_ISIA, sx_ISNS, sx_NSIO, sx_NSIA, sx_NSIS]
          obtain ⟨_, h8, e8, F8, c8, b8⟩ := k_addPerson S7 hQ (p := M 412 8) (sk := acc) (by omega) ha (by rw [iv _ _ (by omega) (by omega)]; exact p2.1.nP) g72 (f := fun q => M' 421 q) (fun k hk => by
            rw [iv _ _ (by omega) (by omega), p2.1.able k hk]
            congr 1
            exact mk_cong (fun u hu => by rw [e 421 u (by omega)])) m7
          rw [e8, bR_v]
          have C8 := C7.qx hQ F8 (fun o k a => by omega)
          have iv8 : ∀ o k, o ≠ 3 → o ≠ Q + 8 + 1 * M 412 8 → ¬ (o = Q ∧ k = 1) → o ≠ Q + 7 → h_iv h8 o k = h_iv h2 o k := fun o k q1 q2 q3 q4 => by rw [F8.iv (by omega), iv o k q1 q2]
          have lv8 : ∀ o k, o ≠ 3 → ¬ (o = Q + 8 + 1 * M 412 8 ∧ k = 0) → h_lv h8 o k = h_lv h2 o k := fun o k q1 q2 => by rw [F8.2.2.2.2.2.1, W7.2.2 o k q1 q2]
          have pq : PQ tx n Q M' h8 := by
            obtain ⟨y1, y2, y3, y4, y5⟩ := p2
            refine ⟨plr_addP hD y1 (by omega) (fun o k q1 q2 q3 => iv8 o k (by omega) (by omega) (by omega) (by omega)) e m8 c8 ?_ ?_ ?_, fun so hso i hi9 => ?_, ?_, fun k hk => ?_, fun g hg j hj => ?_⟩
            · rw [F8.iv (by omega), g71, m6]
            · rw [F8.iv (by omega), g72, m7]
            · rw [m8]; exact b8
            · rcases (show so = 0 ∨ so = 1 ∨ so = 2 ∨ so = 3 by omega) with r | r | r | r <;> subst r
              · change i < M' 412 8 at hi9
                rw [m8] at hi9
                show nmd tx n (M' 419 (0 + i)) = true ∧ h_lv h8 (Q + 8 + 1 * i) 0 = lN (nm32 tx n (M' 419 (0 + i)))
                rw [Nat.zero_add, m5]
                by_cases c : i = M 412 8
                · rw [if_pos c, c, F8.2.2.2.2.2.1]; exact ⟨nd, l7⟩
                · rw [if_neg c, lv8 _ _ (by omega) (by omega)]
                  have := y2 0 (by omega) i (show i < M 412 8 by omega)
                  rw [show nmB 0 + i = i from Nat.zero_add i] at this
                  exact this
              · change i < M' 412 9 at hi9
                rw [e _ _ (by omega)] at hi9
                show nmd tx n (M' 419 (12 + i)) = true ∧ h_lv h8 (Q + 20 + 2 * i) 0 = lN (nm32 tx n (M' 419 (12 + i)))
                rw [m5, if_neg (by omega), lv8 _ _ (by omega) (by omega)]
                exact y2 1 (by omega) i hi9
              · change i < M' 412 10 at hi9
                rw [e _ _ (by omega)] at hi9
                show nmd tx n (M' 419 (18 + i)) = true ∧ h_lv h8 (Q + 32 + 3 * i) 0 = lN (nm32 tx n (M' 419 (18 + i)))
                rw [m5, if_neg (by omega), lv8 _ _ (by omega) (by omega)]
                exact y2 2 (by omega) i hi9
              · change i < M' 412 11 at hi9
                rw [e _ _ (by omega)] at hi9
                show nmd tx n (M' 419 (23 + i)) = true ∧ h_lv h8 (Q + 47 + 3 * i) 0 = lN (nm32 tx n (M' 419 (23 + i)))
                rw [m5, if_neg (by omega), lv8 _ _ (by omega) (by omega)]
                exact y2 3 (by omega) i hi9
            · rw [iv8 _ _ (by omega) (by omega) (by omega) (by omega), e _ _ (by omega)]; exact y3
            · rw [iv8 _ _ (by omega) (by omega) (by omega) (by omega), e 441 k (by omega), e 440 k (by omega)]; exact y4 k hk
            · rw [e _ _ (by omega)] at hg hj
              rw [iv8 _ _ (by omega) (by omega) (by omega) (by omega), e _ _ (by omega)]; exact y5 g hg j hj
          refine cp_inr (a := (M', s')) rfl ?_
          rw [← hK]
          exact ⟨C8, pq⟩
        simp (maxSteps := 3000000) (disch := first | assumption | omega) only [m_X9_readsPerson_L84, bO_v, bR_v, bX_l, bX_r, bC_l, bC_r, aLet_v, nI_add, pk_mul, dvI_n, rmI_n, iMax_n, iMin_n, zO_0, zO_1, li_0, li_1, li_2, li_3, li_4, li_5, li_6, li_7, li_8, li_9, li_10, li_12, li_14, li_15, li_16, li_18, li_19, li_20, li_22, li_23, li_24, li_26, li_29, li_30, li_31, li_32, li_36, li_38, li_48, li_50, li_57, li_58, li_59, li_60, li_63, li_97, li_99, li_120, li_122, li_144, li_168, li_194, li_240, li_255, li_284, li_299, li_603, li_999, li_1200, li_1440, li_4095, li_4096, li_6030, li_16384, li_20160, zl0, zl1, zl2, zl3, zl4, ze01, ze02, ze03, ze04, ze10, ze12, ze13, ze14, ze20, ze21, ze23, ze24, ze30, ze31, ze32, ze34, ze40, ze41, ze42, ze43, zt0, zt1, zt2, zt3, zt4, zq0, zq1, zq2, zq3, zq4, it_t, it_f, Bool.true_eq_false, Bool.false_eq_true, na5, na4, na1441, na2, na10, sx_IOIA, sx_IOIS, sx_IONS, sx_IAIO, sx_IAIS, sx_IANS, sx_ISIO, sx_ISIA, sx_ISNS, sx_NSIO, sx_NSIA, sx_NSIS, nI_ltI, c_cR_gi S7, C7.2.2.2.2.1.1, nI_eq]
        have ct2 : ¬ tok tx n s' = 1 := ct
        by_cases c1200 : i < 1200
        · rw [if_pos c1200, if_neg ct2]; exact go
        · rw [if_neg c1200]; exact go
      · rw [if_neg ct]
        have ct2 : tok tx n s' = 1 := by omega
        have sl := tok_in (tx := tx) (n := n) (s := s') (by omega)
        have ad := adv_gt (tx := tx) sl
        have sk16 : sSkill tx n s' < 16 := by rcases sSkill_v (tx := tx) (n := n) (s := s') with q | q | q | q | q <;> omega
        have so := sk_or acc ha (sSkill tx n s') sk16
        have an : nI (16 + acc) &&& nI (sSkill tx n s') = nI (acc &&& sSkill tx n s') := by rw [fa_and, so.2]
        have orr : nI (16 + acc) ||| nI (sSkill tx n s') = nI (16 + (acc ||| sSkill tx n s')) := by rw [fa_or, so.1]
        have al : acc &&& sSkill tx n s' < 16 := Nat.lt_of_le_of_lt Nat.and_le_left ha
        simp (maxSteps := 3000000) (disch := first | assumption | omega) only [m_X9_readsPerson_L84, bO_v, bR_v, bX_l, bX_r, bC_l, bC_r, aLet_v, nI_add, pk_mul, dvI_n, rmI_n, iMax_n, iMin_n, zO_0, zO_1, li_0, li_1, li_2, li_3, li_4, li_5, li_6, li_7, li_8, li_9, li_10, li_12, li_14, li_15, li_16, li_18, li_19, li_20, li_22, li_23, li_24, li_26, li_29, li_30, li_31, li_32, li_36, li_38, li_48, li_50, li_57, li_58, li_59, li_60, li_63, li_97, li_99, li_120, li_122, li_144, li_168, li_194, li_240, li_255, li_284, li_299, li_603, li_999, li_1200, li_1440, li_4095, li_4096, li_6030, li_16384, li_20160, zl0, zl1, zl2, zl3, zl4, ze01, ze02, ze03, ze04, ze10, ze12, ze13, ze14, ze20, ze21, ze23, ze24, ze30, ze31, ze32, ze34, ze40, ze41, ze42, ze43, zt0, zt1, zt2, zt3, zt4, zq0, zq1, zq2, zq3, zq4, it_t, it_f, Bool.true_eq_false, Bool.false_eq_true, na5, na4, na1441, na2, na10, sx_IOIA, sx_IOIS, sx_IONS, sx_IAIO, sx_IAIS, sx_IANS, sx_ISIO, sx_ISIA, sx_ISNS, sx_NSIO, sx_NSIA, sx_NSIS, nI_ltI, c_cR_gi S7, C7.2.2.2.2.1.1, nI_eq, c_cR_gS S7, k_skillOf X hQ C7, p_ep_gi S7 hQ, g72, an, orr]
        rw [if_pos (show i < 1200 by omega), if_pos ct2]
        by_cases c0 : sSkill tx n s' = 0
        · rw [if_pos c0, if_pos c0]
          obtain ⟨h8, e8, q8, -⟩ := k_fails C7 (c := 1)
          rw [hk108]
          simp (maxSteps := 3000000) (disch := first | assumption | omega) only [c_cR_gS S7, e8, bO_v, bR_v, bX_l, bX_r, bC_l, bC_r, aLet_v, nI_add, pk_mul, dvI_n, rmI_n, iMax_n, iMin_n, zO_0, zO_1, li_0, li_1, li_2, li_3, li_4, li_5, li_6, li_7, li_8, li_9, li_10, li_12, li_14, li_15, li_16, li_18, li_19, li_20, li_22, li_23, li_24, li_26, li_29, li_30, li_31, li_32, li_36, li_38, li_48, li_50, li_57, li_58, li_59, li_60, li_63, li_97, li_99, li_120, li_122, li_144, li_168, li_194, li_240, li_255, li_284, li_299, li_603, li_999, li_1200, li_1440, li_4095, li_4096, li_6030, li_16384, li_20160, zl0, zl1, zl2, zl3, zl4, ze01, ze02, ze03, ze04, ze10, ze12, ze13, ze14, ze20, ze21, ze23, ze24, ze30, ze31, ze32, ze34, ze40, ze41, ze42, ze43, zt0, zt1, zt2, zt3, zt4, zq0, zq1, zq2, zq3, zq4, it_t, it_f, Bool.true_eq_false, Bool.false_eq_true, na5, na4, na1441, na2, na10, sx_IOIA, sx_IOIS, sx_IONS, sx_IAIO, sx_IAIS, sx_IANS, sx_ISIO, sx_ISIA, sx_ISNS, sx_NSIO, sx_NSIA, sx_NSIS]
          exact cp_inl rfl q8
        · rw [if_neg c0, if_neg c0]
          by_cases c2 : acc &&& sSkill tx n s' = 0
          · rw [if_pos c2, if_neg (show ¬ (acc &&& sSkill tx n s' ≠ 0) from fun q => q c2)]
            have F8 : Fx (fun o _ => o = Q + 8 + 1 * M 412 8) h7 (h_si h7 (Q + 8 + 1 * M 412 8) 2 (nI (16 + (acc ||| sSkill tx n s')))) := Fx.si rfl
            have C8 := C7.qx hQ F8 (fun o k a => by omega)
            obtain ⟨_, h9, e9, C9, R9, -⟩ := k_takeC X hQ C8 sl
            simp (maxSteps := 3000000) (disch := first | assumption | omega) only [p_ep_pi S7 hQ, bO_v, bR_v, bX_l, bX_r, bC_l, bC_r, aLet_v, nI_add, pk_mul, dvI_n, rmI_n, iMax_n, iMin_n, zO_0, zO_1, li_0, li_1, li_2, li_3, li_4, li_5, li_6, li_7, li_8, li_9, li_10, li_12, li_14, li_15, li_16, li_18, li_19, li_20, li_22, li_23, li_24, li_26, li_29, li_30, li_31, li_32, li_36, li_38, li_48, li_50, li_57, li_58, li_59, li_60, li_63, li_97, li_99, li_120, li_122, li_144, li_168, li_194, li_240, li_255, li_284, li_299, li_603, li_999, li_1200, li_1440, li_4095, li_4096, li_6030, li_16384, li_20160, zl0, zl1, zl2, zl3, zl4, ze01, ze02, ze03, ze04, ze10, ze12, ze13, ze14, ze20, ze21, ze23, ze24, ze30, ze31, ze32, ze34, ze40, ze41, ze42, ze43, zt0, zt1, zt2, zt3, zt4, zq0, zq1, zq2, zq3, zq4, it_t, it_f, Bool.true_eq_false, Bool.false_eq_true, na5, na4, na1441, na2, na10, sx_IOIA, sx_IOIS, sx_IONS, sx_IAIO, sx_IAIS, sx_IANS, sx_ISIO, sx_ISIA, sx_ISNS, sx_NSIO, sx_NSIA, sx_NSIS, c_cR_gS C8.1, e9]
            have e2 : sSkills tx n (n + 1) 0 v.2 = sSkills tx n f (acc ||| sSkill tx n s') (adv tx n s') := by
              rw [es, sSkills, if_neg ct, if_neg c0, if_neg (fun q => q c2)]
            rw [← e2]
            refine ih f _ _ (by omega) ⟨f, _, _, i + 1, rfl, rfl, by omega, by omega, e2, Nat.or_lt_two_pow (n := 4) ha sk16, C9, (W7.trans (QW.fx F8)).trans R9.qw, ?_, ?_, ?_⟩
            · rw [R9.2.2.2.2.2.1 _ _ (by omega), si_ne (by omega)]; exact g71
            · rw [R9.2.2.2.2.2.1 _ _ (by omega), si_at]
            · rw [R9.2.2.2.2.2.2 _ _ (by omega)]; exact l7
          · rw [if_neg c2, if_pos c2]
            obtain ⟨h8, e8, q8, -⟩ := k_fails C7 (c := 3)
            rw [hk123]
            simp (maxSteps := 3000000) (disch := first | assumption | omega) only [c_cR_gS S7, e8, bO_v, bR_v, bX_l, bX_r, bC_l, bC_r, aLet_v, nI_add, pk_mul, dvI_n, rmI_n, iMax_n, iMin_n, zO_0, zO_1, li_0, li_1, li_2, li_3, li_4, li_5, li_6, li_7, li_8, li_9, li_10, li_12, li_14, li_15, li_16, li_18, li_19, li_20, li_22, li_23, li_24, li_26, li_29, li_30, li_31, li_32, li_36, li_38, li_48, li_50, li_57, li_58, li_59, li_60, li_63, li_97, li_99, li_120, li_122, li_144, li_168, li_194, li_240, li_255, li_284, li_299, li_603, li_999, li_1200, li_1440, li_4095, li_4096, li_6030, li_16384, li_20160, zl0, zl1, zl2, zl3, zl4, ze01, ze02, ze03, ze04, ze10, ze12, ze13, ze14, ze20, ze21, ze23, ze24, ze30, ze31, ze32, ze34, ze40, ze41, ze42, ze43, zt0, zt1, zt2, zt3, zt4, zq0, zq1, zq2, zq3, zq4, it_t, it_f, Bool.true_eq_false, Bool.false_eq_true, na5, na4, na1441, na2, na10, sx_IOIA, sx_IOIS, sx_IONS, sx_IAIO, sx_IAIS, sx_IANS, sx_ISIO, sx_ISIA, sx_ISNS, sx_NSIO, sx_NSIA, sx_NSIS]
            exact cp_inl rfl q8
end
