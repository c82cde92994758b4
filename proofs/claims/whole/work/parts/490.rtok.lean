/-! the reference's reader: signs, words, numbers -/
def TR (tx : Nat → Nat) (n : Nat) (h : aH) : Prop := n ≤ 1200 ∧ h_iv h 412 29 = nI n ∧ ∀ k, k < n → tx k < 256 ∧ h_iv h 435 k = nI (tx k)
/-- ints that the whole reading may write -/
def RX (o k : Nat) : Prop := (o = 412 ∧ 30 ≤ k ∧ k ≤ 43 ∧ k ≠ 36 ∧ k ≠ 38) ∨ (436 ≤ o ∧ o < 456 ∧ o ≠ 437)
def RY (h h1 : aH) : Prop := h_nx h1 = h_nx h ∧ h_sl h1 = h_sl h ∧ h_sh h1 = h_sh h ∧ h_ln h1 = h_ln h ∧ h_rv h1 = h_rv h ∧ (∀ o k, ¬ RX o k → h_iv h1 o k = h_iv h o k) ∧ ∀ o k, ¬ ((o = 412 ∧ k = 36) ∨ o = 437) → h_lv h1 o k = h_lv h o k
theorem RY.rf {h : aH} : RY h h := ⟨rfl, rfl, rfl, rfl, rfl, fun _ _ _ => rfl, fun _ _ _ => rfl⟩
theorem RY.trans {h h1 h2 : aH} (x : RY h h1) (y : RY h1 h2) : RY h h2 := by
  obtain ⟨x1, x2, x3, x4, x5, x6, x7⟩ := x
  obtain ⟨y1, y2, y3, y4, y5, y6, y7⟩ := y
  exact ⟨y1.trans x1, y2.trans x2, y3.trans x3, y4.trans x4, y5.trans x5, fun o k q => (y6 o k q).trans (x6 o k q), fun o k q => (y7 o k q).trans (x7 o k q)⟩
theorem RY.fx {A : Nat → Nat → Prop} {h h1 : aH} (x : Fx A h h1) (hA : ∀ o k, A o k → RX o k) : RY h h1 := by
  obtain ⟨x1, x2, x3, x4, x5, x6, x7⟩ := x
  exact ⟨x1, x2, x3, x4, x5, fun o k q => x7 o k (fun r => q (hA o k r)), fun o k _ => by rw [x6]⟩
theorem RY.sL {h : aH} {o k : Nat} {y : Int64} (ho : (o = 412 ∧ k = 36) ∨ o = 437) : RY h (h_sL h o k y) := ⟨rfl, rfl, rfl, rfl, rfl, fun _ _ _ => rfl, fun a j q => u2n (fun e => q (by rw [e.1, e.2]; exact ho))⟩
theorem RY.sh {h h1 : aH} (x : RY h h1) (hS : Sh h) : Sh h1 := by
  obtain ⟨x1, x2, x3, x4, x5, -⟩ := x
  refine ⟨?_, fun q hq => ?_, fun q hq => ?_⟩
  · rw [x1]; exact hS.1
  · rw [x3, x4]; exact hS.2.1 q hq
  · rw [x5]; exact hS.2.2 q hq
theorem TR.ry {tx : Nat → Nat} {n : Nat} {h h1 : aH} (X : TR tx n h) (x : RY h h1) : TR tx n h1 := ⟨X.1, by rw [x.2.2.2.2.2.1 _ _ (by unfold RX; omega)]; exact X.2.1, fun k hk => ⟨(X.2.2 k hk).1, by rw [x.2.2.2.2.2.1 _ _ (by unfold RX; omega)]; exact (X.2.2 k hk).2⟩⟩
/-- scratch alone was written -/
def RSx (o k : Nat) : Prop := o = 412 ∧ 30 ≤ k ∧ k ≤ 37 ∧ k ≠ 36
def RZ (h h1 : aH) : Prop := h_nx h1 = h_nx h ∧ h_sl h1 = h_sl h ∧ h_sh h1 = h_sh h ∧ h_ln h1 = h_ln h ∧ h_rv h1 = h_rv h ∧ (∀ o k, ¬ RSx o k → h_iv h1 o k = h_iv h o k) ∧ ∀ o k, ¬ (o = 412 ∧ k = 36) → h_lv h1 o k = h_lv h o k
theorem RZ.rf {h : aH} : RZ h h := ⟨rfl, rfl, rfl, rfl, rfl, fun _ _ _ => rfl, fun _ _ _ => rfl⟩
theorem RZ.trans {h h1 h2 : aH} (x : RZ h h1) (y : RZ h1 h2) : RZ h h2 := by
  obtain ⟨x1, x2, x3, x4, x5, x6, x7⟩ := x
  obtain ⟨y1, y2, y3, y4, y5, y6, y7⟩ := y
  exact ⟨y1.trans x1, y2.trans x2, y3.trans x3, y4.trans x4, y5.trans x5, fun o k q => (y6 o k q).trans (x6 o k q), fun o k q => (y7 o k q).trans (x7 o k q)⟩
theorem RZ.fx {A : Nat → Nat → Prop} {h h1 : aH} (x : Fx A h h1) (hA : ∀ o k, A o k → RSx o k) : RZ h h1 := by
  obtain ⟨x1, x2, x3, x4, x5, x6, x7⟩ := x
  exact ⟨x1, x2, x3, x4, x5, fun o k q => x7 o k (fun r => q (hA o k r)), fun o k _ => by rw [x6]⟩
theorem RZ.sL {h : aH} {y : Int64} : RZ h (h_sL h 412 36 y) := ⟨rfl, rfl, rfl, rfl, rfl, fun _ _ _ => rfl, fun a j q => u2n q⟩
theorem RZ.ry {h h1 : aH} (x : RZ h h1) : RY h h1 := by
  obtain ⟨x1, x2, x3, x4, x5, x6, x7⟩ := x
  exact ⟨x1, x2, x3, x4, x5, fun o k q => x6 o k (fun r => q (by unfold RSx at r; unfold RX; omega)), fun o k q => x7 o k (fun r => q (Or.inl r))⟩
/-- what stands in the new plan's cells are numbers -/
def JN (h : aH) : Prop := ∀ o k, 436 ≤ o → o < 456 → o ≠ 437 → ∃ v, v < 2147483600 ∧ h_iv h o k = nI v
theorem JN.rz {h h1 : aH} (j : JN h) (x : RZ h h1) : JN h1 := fun o k q1 q2 q3 => by rw [x.2.2.2.2.2.1 o k (by unfold RSx; omega)]; exact j o k q1 q2 q3
theorem JN.fx {A : Nat → Nat → Prop} {h h1 : aH} (j : JN h) (x : Fx A h h1) (hA : ∀ o k, A o k → ¬ (436 ≤ o ∧ o < 456)) : JN h1 := fun o k q1 q2 q3 => by rw [x.iv (fun r => hA o k r ⟨q1, q2⟩)]; exact j o k q1 q2 q3
theorem JN.si {h : aH} (j : JN h) {o k v : Nat} (hv : v < 2147483600) : JN (h_si h o k (nI v)) := fun a b q1 q2 q3 => by
  by_cases c : a = o ∧ b = k
  · rw [c.1, c.2, si_at]; exact ⟨v, hv, rfl⟩
  · rw [si_ne c]; exact j a b q1 q2 q3
/-- the reference's reader stands ahead of s -/
def GS (tx : Nat → Nat) (n : Nat) (h0 h : aH) (s : Nat) : Prop := Sh h ∧ RY h0 h ∧ JN h ∧ h_iv h 412 33 = nI 0 ∧ (∃ p, p ≤ n ∧ h_iv h 412 30 = nI p ∧ skp tx n p = s) ∧ h_iv h 412 31 = h_iv h0 412 31 ∧ h_iv h 412 32 = h_iv h0 412 32
/-- it has found a fault -/
def BE (n : Nat) (h0 h : aH) (e : ER) : Prop := Sh h ∧ RY h0 h ∧ JN h ∧ h_iv h 412 33 = nI 1 ∧ (∃ p, p ≤ n ∧ h_iv h 412 30 = nI p) ∧ h_iv h 412 31 = nI e.1 ∧ h_iv h 412 32 = nI e.2
def YP {α β : Type} (n : Nat) (h0 : aH) (x : Option (β × aH)) (sp : ER ⊕ α) (B : β → aH → Prop) (K : α → β → aH → Prop) : Prop := OK x (fun r h1 => match sp with
  | .inl e => BE n h0 h1 e ∧ B r h1
  | .inr a => K a r h1)
section
variable {h h0 : aH} {tx : Nat → Nat} {n s : Nat}
theorem GS.rz (G : GS tx n h0 h s) {h1 : aH} (x : RZ h h1) (e3 : h_iv h1 412 33 = h_iv h 412 33 ∧ h_iv h1 412 31 = h_iv h 412 31 ∧ h_iv h1 412 32 = h_iv h 412 32) {s' : Nat} (hp : ∃ p, p ≤ n ∧ h_iv h1 412 30 = nI p ∧ skp tx n p = s') : GS tx n h0 h1 s' := by
  obtain ⟨g1, g2, g3, g4, g5, g6, g7⟩ := G
  exact ⟨x.ry.sh g1, g2.trans x.ry, g3.rz x, by rw [e3.1]; exact g4, hp, by rw [e3.2.1]; exact g6, by rw [e3.2.2]; exact g7⟩
theorem GS.le (G : GS tx n h0 h s) : s ≤ n ∧ skp tx n s = s := by
  obtain ⟨p, p1, p2, p3⟩ := G.2.2.2.2.1
  rw [← p3]
  exact ⟨(skp_le p1).2, skp_skp p1⟩
theorem y_blanks (hS : Sh h) (X : TR tx n h) {p : Nat} (e5 : h_iv h 412 30 = nI p) (hp : p ≤ n) : OK (m_X12_blanks 412 h) (fun _ h1 => Fx (fun o k => o = 412 ∧ k = 30) h h1 ∧ h_iv h1 412 30 = nI (skp tx n p)) := by
  obtain ⟨X1, X0, X2⟩ := X
  simp only [m_X12_blanks]
  generalize hK : (fun (_ : Unit) (h1 : aH) => Fx (fun o k => o = 412 ∧ k = 30) h h1 ∧ h_iv h1 412 30 = nI (skp tx n p)) = K
  refine aJ_gen (R := fun o => OK o K) (fun k52 hk52 => ?_)
  refine aL0_run (R := fun o => OK o K) (fun m h2 => ∃ p', p' ≤ n ∧ m = n - p' ∧ skp tx n p' = skp tx n p ∧ Fx (fun o k => o = 412 ∧ k = 30) h h2 ∧ h_iv h2 412 30 = nI p') ⟨p, hp, rfl, rfl, Fx.rf, e5⟩ (by omega) ?_
  rintro rec m h2 ⟨p', hp', rfl, es, F2, g5⟩ ih
  have S2 := F2.sh hS
  have g1 : h_iv h2 412 29 = nI n := by rw [F2.iv (by omega)]; exact X0
  have fin : skp tx n p' = p' → OK (k52 h2) K := fun q => by
    rw [hk52, ← hK]
    exact ok_ret ⟨F2, by rw [← es, q]; exact g5⟩
  by_cases hlt : p' < n
  · obtain ⟨c9, tb⟩ := X2 p' hlt
    rw [← F2.iv (show ¬ (435 = 412 ∧ p' = 30) by omega)] at tb
    simp (maxSteps := 3000000) (disch := first | assumption | omega) only [m_X12_blanks_L0, bO_v, bR_v, bX_l, bX_r, bC_l, bC_r, aLet_v, nI_add, pk_mul, dvI_n, rmI_n, iMax_n, iMin_n, zO_0, zO_1, li_0, li_1, li_2, li_3, li_4, li_5, li_6, li_7, li_8, li_9, li_10, li_12, li_14, li_15, li_16, li_18, li_19, li_20, li_22, li_23, li_24, li_26, li_29, li_30, li_31, li_32, li_36, li_38, li_48, li_50, li_57, li_58, li_59, li_60, li_63, li_97, li_99, li_120, li_122, li_144, li_168, li_194, li_240, li_255, li_284, li_299, li_603, li_999, li_1200, li_1440, li_4095, li_4096, li_6030, li_16384, li_20160, zl0, zl1, zl2, zl3, zl4, ze01, ze02, ze03, ze04, ze10, ze12, ze13, ze14, ze20, ze21, ze23, ze24, ze30, ze31, ze32, ze34, ze40, ze41, ze42, ze43, zt0, zt1, zt2, zt3, zt4, zq0, zq1, zq2, zq3, zq4, it_t, it_f, Bool.true_eq_false, Bool.false_eq_true, na5, na4, na1441, na2, na10, sx_IOIA, sx_IOIS, sx_IONS, sx_IAIO, sx_IAIS, sx_IANS, sx_ISIO, sx_ISIA, sx_ISNS, sx_NSIO, sx_NSIA, sx_NSIS, r_cM_gi S2, g5, g1, nI_ltI, r_p435 S2, r_c435_al S2, tb, nI_eq, eq_self]
    rw [if_pos hlt]
    refine aJ_gen (R := fun o => OK o K) (fun k39 hk39 => ?_)
    have go : isBl (tx p') = true → OK (k39 h2) K := fun hb => by
      rw [hk39]
      simp (maxSteps := 3000000) (disch := first | assumption | omega) only [bO_v, bR_v, bX_l, bX_r, bC_l, bC_r, aLet_v, nI_add, pk_mul, dvI_n, rmI_n, iMax_n, iMin_n, zO_0, zO_1, li_0, li_1, li_2, li_3, li_4, li_5, li_6, li_7, li_8, li_9, li_10, li_12, li_14, li_15, li_16, li_18, li_19, li_20, li_22, li_23, li_24, li_26, li_29, li_30, li_31, li_32, li_36, li_38, li_48, li_50, li_57, li_58, li_59, li_60, li_63, li_97, li_99, li_120, li_122, li_144, li_168, li_194, li_240, li_255, li_284, li_299, li_603, li_999, li_1200, li_1440, li_4095, li_4096, li_6030, li_16384, li_20160, zl0, zl1, zl2, zl3, zl4, ze01, ze02, ze03, ze04, ze10, ze12, ze13, ze14, ze20, ze21, ze23, ze24, ze30, ze31, ze32, ze34, ze40, ze41, ze42, ze43, zt0, zt1, zt2, zt3, zt4, zq0, zq1, zq2, zq3, zq4, it_t, it_f, Bool.true_eq_false, Bool.false_eq_true, na5, na4, na1441, na2, na10, sx_IOIA, sx_IOIS, sx_IONS, sx_IAIO, sx_IAIS, sx_IANS, sx_ISIO, sx_ISIA, sx_ISNS, sx_NSIO, sx_NSIA, sx_NSIS, r_cM_gi S2, g5, r_cM_pi S2]
      exact ih _ _ (by omega) ⟨p' + 1, hlt, rfl, by rw [← es]; exact skp_step hlt hb, F2.trans (Fx.si (A := fun o k => o = 412 ∧ k = 30) ⟨rfl, rfl⟩), si_at⟩
    by_cases c1 : tx p' = 10
    · rw [if_pos c1]; exact go (decide_eq_true (Or.inl c1))
    · rw [if_neg c1]
      by_cases c2 : tx p' = 32
      · rw [if_pos c2]; exact go (decide_eq_true (Or.inr c2))
      · rw [if_neg c2]
        exact fin (skp_stop (Or.inr (decide_eq_false (by omega))) hp')
  · obtain rfl : p' = n := by omega
    simp (maxSteps := 3000000) (disch := first | assumption | omega) only [m_X12_blanks_L0, bO_v, bR_v, bX_l, bX_r, bC_l, bC_r, aLet_v, nI_add, pk_mul, dvI_n, rmI_n, iMax_n, iMin_n, zO_0, zO_1, li_0, li_1, li_2, li_3, li_4, li_5, li_6, li_7, li_8, li_9, li_10, li_12, li_14, li_15, li_16, li_18, li_19, li_20, li_22, li_23, li_24, li_26, li_29, li_30, li_31, li_32, li_36, li_38, li_48, li_50, li_57, li_58, li_59, li_60, li_63, li_97, li_99, li_120, li_122, li_144, li_168, li_194, li_240, li_255, li_284, li_299, li_603, li_999, li_1200, li_1440, li_4095, li_4096, li_6030, li_16384, li_20160, zl0, zl1, zl2, zl3, zl4, ze01, ze02, ze03, ze04, ze10, ze12, ze13, ze14, ze20, ze21, ze23, ze24, ze30, ze31, ze32, ze34, ze40, ze41, ze42, ze43, zt0, zt1, zt2, zt3, zt4, zq0, zq1, zq2, zq3, zq4, it_t, it_f, Bool.true_eq_false, Bool.false_eq_true, na5, na4, na1441, na2, na10, sx_IOIA, sx_IOIS, sx_IONS, sx_IAIO, sx_IAIS, sx_IANS, sx_ISIO, sx_ISIA, sx_ISNS, sx_NSIO, sx_NSIA, sx_NSIS, r_cM_gi S2, g5, g1, nI_ltI]
    rw [if_neg hlt]
    exact fin (skp_stop (Or.inl (Nat.le_refl _)) hp')
theorem y_in {x : Int32} {a b : Int64} : m_X12_in (x.toInt64) a b h = some (b2i (decide (a.toInt ≤ x.toInt ∧ x.toInt ≤ b.toInt)), h) := by
  simp only [m_X12_in, bO_v, bR_v, bX_l, bX_r, bC_l, bC_r, aJ_v, aLet_v, nI_add, pk_mul, dvI_n, rmI_n, iMax_n, iMin_n, zO_0, zO_1, li_0, li_1, li_2, li_3, li_4, li_5, li_6, li_7, li_8, li_9, li_10, li_12, li_14, li_15, li_16, li_18, li_19, li_20, li_22, li_23, li_24, li_26, li_29, li_30, li_31, li_32, li_36, li_38, li_48, li_50, li_57, li_58, li_59, li_60, li_63, li_97, li_99, li_120, li_122, li_144, li_168, li_194, li_240, li_255, li_284, li_299, li_603, li_999, li_1200, li_1440, li_4095, li_4096, li_6030, li_16384, li_20160, zl0, zl1, zl2, zl3, zl4, ze01, ze02, ze03, ze04, ze10, ze12, ze13, ze14, ze20, ze21, ze23, ze24, ze30, ze31, ze32, ze34, ze40, ze41, ze42, ze43, zt0, zt1, zt2, zt3, zt4, zq0, zq1, zq2, zq3, zq4, it_t, it_f, Bool.true_eq_false, Bool.false_eq_true, na5, na4, na1441, na2, na10, sx_IOIA, sx_IOIS, sx_IONS, sx_IAIO, sx_IAIS, sx_IANS, sx_ISIO, sx_ISIA, sx_ISNS, sx_NSIO, sx_NSIA, sx_NSIS, lgc_ltn, lgc_len, Int32.toInt_toInt64]
  by_cases c1 : x.toInt < a.toInt
  · rw [if_pos c1, b2i_f (decide_eq_false (by omega))]
  · rw [if_neg c1]
    by_cases c2 : x.toInt ≤ b.toInt
    · rw [if_pos c2, b2i_t (decide_eq_true (by omega))]
    · rw [if_neg c2, b2i_f (decide_eq_false (by omega))]
theorem y_isLt (hS : Sh h) (X : TR tx n h) {p : Nat} (hp : p < 100000) : m_X12_isLetter 412 (nI p) h = some (b2i (decide (p < n) && isLt (tx p)), h) := by
  have x1 := X.1
  by_cases c : p < n
  · obtain ⟨c9, tb⟩ := X.2.2 p c
    have il : decide ((97 : Int64).toInt ≤ (nI (tx p)).toInt ∧ (nI (tx p)).toInt ≤ (122 : Int64).toInt) = isLt (tx p) := by
      have e1 : (97 : Int64).toInt = 97 := rfl
      have e2 : (122 : Int64).toInt = 122 := rfl
      rw [e1, e2, nI_toInt (by omega)]
      exact decide_eq_decide.mpr (by omega)
    simp (maxSteps := 3000000) (disch := first | assumption | omega) only [m_X12_isLetter, bO_v, bR_v, bX_l, bX_r, bC_l, bC_r, aJ_v, aLet_v, nI_add, pk_mul, dvI_n, rmI_n, iMax_n, iMin_n, zO_0, zO_1, li_0, li_1, li_2, li_3, li_4, li_5, li_6, li_7, li_8, li_9, li_10, li_12, li_14, li_15, li_16, li_18, li_19, li_20, li_22, li_23, li_24, li_26, li_29, li_30, li_31, li_32, li_36, li_38, li_48, li_50, li_57, li_58, li_59, li_60, li_63, li_97, li_99, li_120, li_122, li_144, li_168, li_194, li_240, li_255, li_284, li_299, li_603, li_999, li_1200, li_1440, li_4095, li_4096, li_6030, li_16384, li_20160, zl0, zl1, zl2, zl3, zl4, ze01, ze02, ze03, ze04, ze10, ze12, ze13, ze14, ze20, ze21, ze23, ze24, ze30, ze31, ze32, ze34, ze40, ze41, ze42, ze43, zt0, zt1, zt2, zt3, zt4, zq0, zq1, zq2, zq3, zq4, it_t, it_f, Bool.true_eq_false, Bool.false_eq_true, na5, na4, na1441, na2, na10, sx_IOIA, sx_IOIS, sx_IONS, sx_IAIO, sx_IAIS, sx_IANS, sx_ISIO, sx_ISIA, sx_ISNS, sx_NSIO, sx_NSIA, sx_NSIS, r_cM_gi hS, X.2.1, nI_ltI, if_pos c, r_p435 hS, r_c435_al hS, tb, y_in, il, b2i_0]
    rw [decide_eq_true c, Bool.true_and]
    cases isLt (tx p) <;> rfl
  · simp (maxSteps := 3000000) (disch := first | assumption | omega) only [m_X12_isLetter, bO_v, bR_v, bX_l, bX_r, bC_l, bC_r, aJ_v, aLet_v, nI_add, pk_mul, dvI_n, rmI_n, iMax_n, iMin_n, zO_0, zO_1, li_0, li_1, li_2, li_3, li_4, li_5, li_6, li_7, li_8, li_9, li_10, li_12, li_14, li_15, li_16, li_18, li_19, li_20, li_22, li_23, li_24, li_26, li_29, li_30, li_31, li_32, li_36, li_38, li_48, li_50, li_57, li_58, li_59, li_60, li_63, li_97, li_99, li_120, li_122, li_144, li_168, li_194, li_240, li_255, li_284, li_299, li_603, li_999, li_1200, li_1440, li_4095, li_4096, li_6030, li_16384, li_20160, zl0, zl1, zl2, zl3, zl4, ze01, ze02, ze03, ze04, ze10, ze12, ze13, ze14, ze20, ze21, ze23, ze24, ze30, ze31, ze32, ze34, ze40, ze41, ze42, ze43, zt0, zt1, zt2, zt3, zt4, zq0, zq1, zq2, zq3, zq4, it_t, it_f, Bool.true_eq_false, Bool.false_eq_true, na5, na4, na1441, na2, na10, sx_IOIA, sx_IOIS, sx_IONS, sx_IAIO, sx_IAIS, sx_IANS, sx_ISIO, sx_ISIA, sx_ISNS, sx_NSIO, sx_NSIA, sx_NSIS, r_cM_gi hS, X.2.1, nI_ltI, if_neg c]
    rw [decide_eq_false c]; rfl
theorem y_isDg (hS : Sh h) (X : TR tx n h) {p : Nat} (hp : p < 100000) : m_X12_isDigit 412 (nI p) h = some (b2i (decide (p < n) && isDg (tx p)), h) := by
  have x1 := X.1
  by_cases c : p < n
  · obtain ⟨c9, tb⟩ := X.2.2 p c
    have il : decide ((48 : Int64).toInt ≤ (nI (tx p)).toInt ∧ (nI (tx p)).toInt ≤ (57 : Int64).toInt) = isDg (tx p) := by
      have e1 : (48 : Int64).toInt = 48 := rfl
      have e2 : (57 : Int64).toInt = 57 := rfl
      rw [e1, e2, nI_toInt (by omega)]
      exact decide_eq_decide.mpr (by omega)
    simp (maxSteps := 3000000) (disch := first | assumption | omega) only [m_X12_isDigit, bO_v, bR_v, bX_l, bX_r, bC_l, bC_r, aJ_v, aLet_v, nI_add, pk_mul, dvI_n, rmI_n, iMax_n, iMin_n, zO_0, zO_1, li_0, li_1, li_2, li_3, li_4, li_5, li_6, li_7, li_8, li_9, li_10, li_12, li_14, li_15, li_16, li_18, li_19, li_20, li_22, li_23, li_24, li_26, li_29, li_30, li_31, li_32, li_36, li_38, li_48, li_50, li_57, li_58, li_59, li_60, li_63, li_97, li_99, li_120, li_122, li_144, li_168, li_194, li_240, li_255, li_284, li_299, li_603, li_999, li_1200, li_1440, li_4095, li_4096, li_6030, li_16384, li_20160, zl0, zl1, zl2, zl3, zl4, ze01, ze02, ze03, ze04, ze10, ze12, ze13, ze14, ze20, ze21, ze23, ze24, ze30, ze31, ze32, ze34, ze40, ze41, ze42, ze43, zt0, zt1, zt2, zt3, zt4, zq0, zq1, zq2, zq3, zq4, it_t, it_f, Bool.true_eq_false, Bool.false_eq_true, na5, na4, na1441, na2, na10, sx_IOIA, sx_IOIS, sx_IONS, sx_IAIO, sx_IAIS, sx_IANS, sx_ISIO, sx_ISIA, sx_ISNS, sx_NSIO, sx_NSIA, sx_NSIS, r_cM_gi hS, X.2.1, nI_ltI, if_pos c, r_p435 hS, r_c435_al hS, tb, y_in, il, b2i_0]
    rw [decide_eq_true c, Bool.true_and]
    cases isDg (tx p) <;> rfl
  · simp (maxSteps := 3000000) (disch := first | assumption | omega) only [m_X12_isDigit, bO_v, bR_v, bX_l, bX_r, bC_l, bC_r, aJ_v, aLet_v, nI_add, pk_mul, dvI_n, rmI_n, iMax_n, iMin_n, zO_0, zO_1, li_0, li_1, li_2, li_3, li_4, li_5, li_6, li_7, li_8, li_9, li_10, li_12, li_14, li_15, li_16, li_18, li_19, li_20, li_22, li_23, li_24, li_26, li_29, li_30, li_31, li_32, li_36, li_38, li_48, li_50, li_57, li_58, li_59, li_60, li_63, li_97, li_99, li_120, li_122, li_144, li_168, li_194, li_240, li_255, li_284, li_299, li_603, li_999, li_1200, li_1440, li_4095, li_4096, li_6030, li_16384, li_20160, zl0, zl1, zl2, zl3, zl4, ze01, ze02, ze03, ze04, ze10, ze12, ze13, ze14, ze20, ze21, ze23, ze24, ze30, ze31, ze32, ze34, ze40, ze41, ze42, ze43, zt0, zt1, zt2, zt3, zt4, zq0, zq1, zq2, zq3, zq4, it_t, it_f, Bool.true_eq_false, Bool.false_eq_true, na5, na4, na1441, na2, na10, sx_IOIA, sx_IOIS, sx_IONS, sx_IAIO, sx_IAIS, sx_IANS, sx_ISIO, sx_ISIA, sx_ISNS, sx_NSIO, sx_NSIA, sx_NSIS, r_cM_gi hS, X.2.1, nI_ltI, if_neg c]
    rw [decide_eq_false c]; rfl
theorem run_at {q : Nat → Bool} {j : Nat} (hj : j ≤ run tx q n s) (hs : s ≤ n) : (decide (s + j < n) && q (tx (s + j))) = decide (j < run tx q n s) := by
  have l := run_le (tx := tx) (q := q) (n := n) (p := s)
  by_cases c : j < run tx q n s
  · rw [decide_eq_true (show s + j < n by omega), run_in c, decide_eq_true c]; rfl
  · obtain rfl : j = run tx q n s := by omega
    rw [decide_eq_false c]
    by_cases c2 : s + run tx q n s < n
    · rw [run_end c2, Bool.and_false]
    · rw [decide_eq_false c2]; rfl
/-- the word that the reference reads at s -/
def wv (tx : Nat → Nat) (n s : Nat) : Int64 := if wle tx n s ≤ 8 then lN (cd tx n s) else -1
def wpf (tx : Nat → Nat) (s j : Nat) : Int64 := if j ≤ 8 then lN (enc 27 (wd tx s) j) else -1
theorem wpf_s {j : Nat} (hj : j < 8) (h1 : 97 ≤ tx (s + j)) : (27 : Int64) * wpf tx s j + lN (tx (s + j)) - 97 + 1 = wpf tx s (j + 1) := by
  unfold wpf
  rw [if_pos (by omega), if_pos (by omega), enc]
  have e : lN 27 * lN (enc 27 (wd tx s) j) + lN (tx (s + j)) - lN 97 + lN 1 = lN (27 * enc 27 (wd tx s) j + wd tx s j) := by
    rw [lN_mul, lN_add, lN_sub (by omega), lN_add]
    congr 1
    unfold wd
    omega
  exact e
theorem y_word (hS : Sh h) (X : TR tx n h) {p : Nat} (e5 : h_iv h 412 30 = nI p) (hp : p ≤ n) (hs : skp tx n p = s) : OK (m_X12_takesWord 412 h) (fun r h1 => r = wv tx n s ∧ Fx (fun o k => o = 412 ∧ (k = 30 ∨ k = 37)) h h1 ∧ h_iv h1 412 30 = nI (s + wle tx n s) ∧ h_iv h1 412 37 = nI s) := by
  obtain ⟨_, h1, e1, F1, g1⟩ := y_blanks hS X e5 hp
  have sl := skp_le (tx := tx) hp
  rw [hs] at g1 sl
  have S1 := F1.sh hS
  have x1 := X.1
  have S2 : Sh (h_si h1 412 37 (nI s)) := S1.si _ _ _
  simp (maxSteps := 3000000) (disch := first | assumption | omega) only [m_X12_takesWord, bO_v, bR_v, bX_l, bX_r, bC_l, bC_r, aLet_v, nI_add, pk_mul, dvI_n, rmI_n, iMax_n, iMin_n, zO_0, zO_1, li_0, li_1, li_2, li_3, li_4, li_5, li_6, li_7, li_8, li_9, li_10, li_12, li_14, li_15, li_16, li_18, li_19, li_20, li_22, li_23, li_24, li_26, li_29, li_30, li_31, li_32, li_36, li_38, li_48, li_50, li_57, li_58, li_59, li_60, li_63, li_97, li_99, li_120, li_122, li_144, li_168, li_194, li_240, li_255, li_284, li_299, li_603, li_999, li_1200, li_1440, li_4095, li_4096, li_6030, li_16384, li_20160, zl0, zl1, zl2, zl3, zl4, ze01, ze02, ze03, ze04, ze10, ze12, ze13, ze14, ze20, ze21, ze23, ze24, ze30, ze31, ze32, ze34, ze40, ze41, ze42, ze43, zt0, zt1, zt2, zt3, zt4, zq0, zq1, zq2, zq3, zq4, it_t, it_f, Bool.true_eq_false, Bool.false_eq_true, na5, na4, na1441, na2, na10, sx_IOIA, sx_IOIS, sx_IONS, sx_IAIO, sx_IAIS, sx_IANS, sx_ISIO, sx_ISIA, sx_ISNS, sx_NSIO, sx_NSIA, sx_NSIS, r_cM_gS hS, e1, r_cM_gi S1, g1, r_cM_pi S1]
  have F2 : Fx (fun o k => o = 412 ∧ (k = 30 ∨ k = 37)) h (h_si h1 412 37 (nI s)) := (F1.mono (fun o k r => ⟨r.1, Or.inl r.2⟩)).trans (Fx.si ⟨rfl, Or.inr rfl⟩)
  have a30 : h_iv (h_si h1 412 37 (nI s)) 412 30 = nI s := by rw [si_ne (by omega)]; exact g1
  have a37 : h_iv (h_si h1 412 37 (nI s)) 412 37 = nI s := si_at
  generalize h_si h1 412 37 (nI s) = h2 at *
  generalize hK : (fun (r : Int64) (h1 : aH) => r = wv tx n s ∧ Fx (fun o k => o = 412 ∧ (k = 30 ∨ k = 37)) h h1 ∧ h_iv h1 412 30 = nI (s + wle tx n s) ∧ h_iv h1 412 37 = nI s) = K
  refine aJ_gen (R := fun o => OK o K) (fun k78 hk78 => ?_)
  have wl : wle tx n s ≤ n - s := run_le
  refine aL2_run (R := fun o => OK o K) (fun m s1 s2 g => ∃ j, j ≤ wle tx n s ∧ m = wle tx n s - j ∧ s1 = wpf tx s j ∧ s2 = nI j ∧ Fx (fun o k => o = 412 ∧ k = 30) h2 g ∧ h_iv g 412 30 = nI (s + j)) ⟨0, Nat.zero_le _, rfl, rfl, rfl, Fx.rf, a30⟩ (by omega) ?_
  rintro rec m s1 s2 g ⟨j, hj, rfl, rfl, rfl, F3, g30⟩ ih
  have S3 := F3.sh S2
  have F3' : Fx (fun o k => o = 412 ∧ (k = 30 ∨ k = 37)) h g := F2.trans (F3.mono (fun o k r => ⟨r.1, Or.inl r.2⟩))
  have X3 := X.ry (RY.fx F3' (fun o k r => by unfold RX; omega))
  have il := y_isLt S3 X3 (p := s + j) (by omega)
  rw [run_at hj sl.2] at il
  simp (maxSteps := 3000000) (disch := first | assumption | omega) only [m_X12_takesWord_L16, bO_v, bR_v, bX_l, bX_r, bC_l, bC_r, aLet_v, nI_add, pk_mul, dvI_n, rmI_n, iMax_n, iMin_n, zO_0, zO_1, li_0, li_1, li_2, li_3, li_4, li_5, li_6, li_7, li_8, li_9, li_10, li_12, li_14, li_15, li_16, li_18, li_19, li_20, li_22, li_23, li_24, li_26, li_29, li_30, li_31, li_32, li_36, li_38, li_48, li_50, li_57, li_58, li_59, li_60, li_63, li_97, li_99, li_120, li_122, li_144, li_168, li_194, li_240, li_255, li_284, li_299, li_603, li_999, li_1200, li_1440, li_4095, li_4096, li_6030, li_16384, li_20160, zl0, zl1, zl2, zl3, zl4, ze01, ze02, ze03, ze04, ze10, ze12, ze13, ze14, ze20, ze21, ze23, ze24, ze30, ze31, ze32, ze34, ze40, ze41, ze42, ze43, zt0, zt1, zt2, zt3, zt4, zq0, zq1, zq2, zq3, zq4, it_t, it_f, Bool.true_eq_false, Bool.false_eq_true, na5, na4, na1441, na2, na10, sx_IOIA, sx_IOIS, sx_IONS, sx_IAIO, sx_IAIS, sx_IANS, sx_ISIO, sx_ISIA, sx_ISNS, sx_NSIO, sx_NSIA, sx_NSIS, r_cM_gi S3, g30, r_cM_gS S3, il, b2i_0, decide_eq_false_iff_not]
  by_cases c : j < wle tx n s
  · have tb := X3.2.2 (s + j) (by omega)
    have lt := of_decide_eq_true (run_in (tx := tx) (q := isLt) (n := n) (p := s) (k := j) c)
    rw [if_neg (fun q => q c)]
    refine aJ_gen (R := fun o => OK o K) (fun k61 hk61 => ?_)
    have go : ∀ y, y = wpf tx s (j + 1) → OK (k61 y g) K := fun y hy => by
      rw [hk61]
      simp (maxSteps := 3000000) (disch := first | assumption | omega) only [bO_v, bR_v, bX_l, bX_r, bC_l, bC_r, aLet_v, nI_add, pk_mul, dvI_n, rmI_n, iMax_n, iMin_n, zO_0, zO_1, li_0, li_1, li_2, li_3, li_4, li_5, li_6, li_7, li_8, li_9, li_10, li_12, li_14, li_15, li_16, li_18, li_19, li_20, li_22, li_23, li_24, li_26, li_29, li_30, li_31, li_32, li_36, li_38, li_48, li_50, li_57, li_58, li_59, li_60, li_63, li_97, li_99, li_120, li_122, li_144, li_168, li_194, li_240, li_255, li_284, li_299, li_603, li_999, li_1200, li_1440, li_4095, li_4096, li_6030, li_16384, li_20160, zl0, zl1, zl2, zl3, zl4, ze01, ze02, ze03, ze04, ze10, ze12, ze13, ze14, ze20, ze21, ze23, ze24, ze30, ze31, ze32, ze34, ze40, ze41, ze42, ze43, zt0, zt1, zt2, zt3, zt4, zq0, zq1, zq2, zq3, zq4, it_t, it_f, Bool.true_eq_false, Bool.false_eq_true, na5, na4, na1441, na2, na10, sx_IOIA, sx_IOIS, sx_IONS, sx_IAIO, sx_IAIS, sx_IANS, sx_ISIO, sx_ISIA, sx_ISNS, sx_NSIO, sx_NSIA, sx_NSIS, r_cM_gi S3, g30, r_cM_pi S3]
      exact ih _ _ _ _ (by omega) ⟨j + 1, c, rfl, hy, rfl, F3.trans (Fx.si (A := fun o k => o = 412 ∧ k = 30) ⟨rfl, rfl⟩), si_at⟩
    simp (maxSteps := 3000000) (disch := first | assumption | omega) only [bO_v, bR_v, bX_l, bX_r, bC_l, bC_r, aLet_v, nI_add, pk_mul, dvI_n, rmI_n, iMax_n, iMin_n, zO_0, zO_1, li_0, li_1, li_2, li_3, li_4, li_5, li_6, li_7, li_8, li_9, li_10, li_12, li_14, li_15, li_16, li_18, li_19, li_20, li_22, li_23, li_24, li_26, li_29, li_30, li_31, li_32, li_36, li_38, li_48, li_50, li_57, li_58, li_59, li_60, li_63, li_97, li_99, li_120, li_122, li_144, li_168, li_194, li_240, li_255, li_284, li_299, li_603, li_999, li_1200, li_1440, li_4095, li_4096, li_6030, li_16384, li_20160, zl0, zl1, zl2, zl3, zl4, ze01, ze02, ze03, ze04, ze10, ze12, ze13, ze14, ze20, ze21, ze23, ze24, ze30, ze31, ze32, ze34, ze40, ze41, ze42, ze43, zt0, zt1, zt2, zt3, zt4, zq0, zq1, zq2, zq3, zq4, it_t, it_f, Bool.true_eq_false, Bool.false_eq_true, na5, na4, na1441, na2, na10, sx_IOIA, sx_IOIS, sx_IONS, sx_IAIO, sx_IAIS, sx_IANS, sx_ISIO, sx_ISIA, sx_ISNS, sx_NSIO, sx_NSIA, sx_NSIS, nI_ltI, r_p435 S3, r_cM_gi S3, g30, r_c435_al S3, tb.2, wide_n]
    by_cases c8 : j < 8
    · rw [if_pos c8]
      exact go _ (wpf_s c8 (by omega))
    · rw [if_neg c8]
      exact go _ (by unfold wpf; rw [if_neg (by omega)])
  · obtain rfl : j = wle tx n s := by omega
    rw [if_pos (show ¬ wle tx n s < run tx isLt n s from c), hk78, ← hK]
    exact ok_ret ⟨rfl, F3', g30, by rw [F3.iv (by omega)]; exact a37⟩
theorem y_isNext (hS : Sh h) (X : TR tx n h) {p c : Nat} (e5 : h_iv h 412 30 = nI p) (hp : p ≤ n) (hs : skp tx n p = s) (hc : c < 128) : OK (m_X12_isNext 412 (nI c) h) (fun r h1 => r = b2i (decide (s < n ∧ tx s = c)) ∧ Fx (fun o k => o = 412 ∧ k = 30) h h1 ∧ h_iv h1 412 30 = nI s) := by
  obtain ⟨_, h1, e1, F1, g1⟩ := y_blanks hS X e5 hp
  rw [hs] at g1
  have S1 := F1.sh hS
  have x1 := X.1
  have sl := skp_le (tx := tx) hp
  rw [hs] at sl
  have X1 := X.ry (RY.fx F1 (fun o k r => by unfold RX; omega))
  by_cases c1 : s < n
  · have tb := X1.2.2 s c1
    simp (maxSteps := 3000000) (disch := first | assumption | omega) only [m_X12_isNext, bO_v, bR_v, bX_l, bX_r, bC_l, bC_r, aJ_v, aLet_v, nI_add, pk_mul, dvI_n, rmI_n, iMax_n, iMin_n, zO_0, zO_1, li_0, li_1, li_2, li_3, li_4, li_5, li_6, li_7, li_8, li_9, li_10, li_12, li_14, li_15, li_16, li_18, li_19, li_20, li_22, li_23, li_24, li_26, li_29, li_30, li_31, li_32, li_36, li_38, li_48, li_50, li_57, li_58, li_59, li_60, li_63, li_97, li_99, li_120, li_122, li_144, li_168, li_194, li_240, li_255, li_284, li_299, li_603, li_999, li_1200, li_1440, li_4095, li_4096, li_6030, li_16384, li_20160, zl0, zl1, zl2, zl3, zl4, ze01, ze02, ze03, ze04, ze10, ze12, ze13, ze14, ze20, ze21, ze23, ze24, ze30, ze31, ze32, ze34, ze40, ze41, ze42, ze43, zt0, zt1, zt2, zt3, zt4, zq0, zq1, zq2, zq3, zq4, it_t, it_f, Bool.true_eq_false, Bool.false_eq_true, na5, na4, na1441, na2, na10, sx_IOIA, sx_IOIS, sx_IONS, sx_IAIO, sx_IAIS, sx_IANS, sx_ISIO, sx_ISIA, sx_ISNS, sx_NSIO, sx_NSIA, sx_NSIS, r_cM_gS hS, e1, r_cM_gi S1, g1, X1.2.1, nI_ltI, if_pos c1, r_p435 S1, r_c435_al S1, tb.2, nI_eq, eq_self]
    by_cases c2 : tx s = c
    · rw [if_pos c2]
      exact ok_ret ⟨by rw [decide_eq_true ⟨c1, c2⟩]; rfl, F1, g1⟩
    · rw [if_neg c2]
      exact ok_ret ⟨by rw [decide_eq_false (fun q => c2 q.2)]; rfl, F1, g1⟩
  · simp (maxSteps := 3000000) (disch := first | assumption | omega) only [m_X12_isNext, bO_v, bR_v, bX_l, bX_r, bC_l, bC_r, aJ_v, aLet_v, nI_add, pk_mul, dvI_n, rmI_n, iMax_n, iMin_n, zO_0, zO_1, li_0, li_1, li_2, li_3, li_4, li_5, li_6, li_7, li_8, li_9, li_10, li_12, li_14, li_15, li_16, li_18, li_19, li_20, li_22, li_23, li_24, li_26, li_29, li_30, li_31, li_32, li_36, li_38, li_48, li_50, li_57, li_58, li_59, li_60, li_63, li_97, li_99, li_120, li_122, li_144, li_168, li_194, li_240, li_255, li_284, li_299, li_603, li_999, li_1200, li_1440, li_4095, li_4096, li_6030, li_16384, li_20160, zl0, zl1, zl2, zl3, zl4, ze01, ze02, ze03, ze04, ze10, ze12, ze13, ze14, ze20, ze21, ze23, ze24, ze30, ze31, ze32, ze34, ze40, ze41, ze42, ze43, zt0, zt1, zt2, zt3, zt4, zq0, zq1, zq2, zq3, zq4, it_t, it_f, Bool.true_eq_false, Bool.false_eq_true, na5, na4, na1441, na2, na10, sx_IOIA, sx_IOIS, sx_IONS, sx_IAIO, sx_IAIS, sx_IANS, sx_ISIO, sx_ISIA, sx_ISNS, sx_NSIO, sx_NSIA, sx_NSIS, r_cM_gS hS, e1, r_cM_gi S1, g1, X1.2.1, nI_ltI, if_neg c1]
    exact ok_ret ⟨by rw [decide_eq_false (fun q => c1 q.1)]; rfl, F1, g1⟩
/-- the first fault is kept -/
theorem y_fault (G1 : Sh h) (G2 : RY h0 h) (G3 : JN h) (G4 : h_iv h 412 33 = nI 0) {p : Nat} (hp : p ≤ n) (e5 : h_iv h 412 30 = nI p) {c w : Nat} : ∃ h1, m_X12_fault 412 (nI c) (nI w) h = some ((), h1) ∧ BE n h0 h1 (c, w) ∧ Fx RSx h h1 := by
  have S1 : Sh (h_si h 412 33 (nI 1)) := G1.si _ _ _
  have S2 : Sh (h_si (h_si h 412 33 (nI 1)) 412 31 (nI c)) := S1.si _ _ _
  have w1 : pz h 12 412 33 (nI 1) = some (h_si h 412 33 (nI 1)) := pz_ok (r_cM G1) (Or.inr rfl)
  have z : (nI 0 = nI 0) = True := eq_self _
  have F : Fx RSx h (h_si (h_si (h_si h 412 33 (nI 1)) 412 31 (nI c)) 412 32 (nI w)) := ((Fx.si (A := RSx) (by unfold RSx; omega)).trans (Fx.si (by unfold RSx; omega))).trans (Fx.si (by unfold RSx; omega))
  refine ⟨h_si (h_si (h_si h 412 33 (nI 1)) 412 31 (nI c)) 412 32 (nI w), ?_, ⟨F.sh G1, G2.trans (RY.fx F (fun o k r => by unfold RSx at r; unfold RX; omega)), G3.fx F (fun o k r => by unfold RSx at r; omega), ?_, ⟨p, hp, ?_⟩, ?_, si_at⟩, F⟩
  · simp (maxSteps := 3000000) (disch := first | assumption | omega) only [m_X12_fault, bO_v, bR_v, bX_l, bX_r, bC_l, bC_r, aJ_v, aLet_v, nI_add, pk_mul, dvI_n, rmI_n, iMax_n, iMin_n, zO_0, zO_1, li_0, li_1, li_2, li_3, li_4, li_5, li_6, li_7, li_8, li_9, li_10, li_12, li_14, li_15, li_16, li_18, li_19, li_20, li_22, li_23, li_24, li_26, li_29, li_30, li_31, li_32, li_36, li_38, li_48, li_50, li_57, li_58, li_59, li_60, li_63, li_97, li_99, li_120, li_122, li_144, li_168, li_194, li_240, li_255, li_284, li_299, li_603, li_999, li_1200, li_1440, li_4095, li_4096, li_6030, li_16384, li_20160, zl0, zl1, zl2, zl3, zl4, ze01, ze02, ze03, ze04, ze10, ze12, ze13, ze14, ze20, ze21, ze23, ze24, ze30, ze31, ze32, ze34, ze40, ze41, ze42, ze43, zt0, zt1, zt2, zt3, zt4, zq0, zq1, zq2, zq3, zq4, it_t, it_f, Bool.true_eq_false, Bool.false_eq_true, na5, na4, na1441, na2, na10, sx_IOIA, sx_IOIS, sx_IONS, sx_IAIO, sx_IAIS, sx_IANS, sx_ISIO, sx_ISIA, sx_ISNS, sx_NSIO, sx_NSIA, sx_NSIS, r_cM_gi G1, G4, z, w1, r_cM_pi S1, r_cM_pi S2]
  · rw [si_ne (by omega), si_ne (by omega), si_at]
  · rw [si_ne (by omega), si_ne (by omega), si_ne (by omega)]; exact e5
  · rw [si_ne (by omega), si_at]
theorem y_sign (X : TR tx n h0) (G : GS tx n h0 h s) {c t : Nat} (ht : (c = 59 ∧ t = 3) ∨ (c = 58 ∧ t = 4)) : YP n h0 (m_X12_sign 412 (nI c) h) (sSym tx n s t) (fun _ h1 => RZ h h1) (fun s' _ h1 => GS tx n h0 h1 s' ∧ RZ h h1) := by
  have G0 := G
  obtain ⟨g1, g2, g3, g4, ⟨p, p1, p2, p3⟩, g6, g7⟩ := G
  have X0 := X.ry g2
  have x1 := X.1
  obtain ⟨r, h1, e1, rfl, F1, a1⟩ := y_isNext g1 X0 p2 p1 p3 (c := c) (by omega)
  have Z1 : RZ h h1 := RZ.fx F1 (fun o k r => by unfold RSx; omega)
  have G1 : GS tx n h0 h1 s := G0.rz Z1 ⟨F1.iv (by omega), F1.iv (by omega), F1.iv (by omega)⟩ ⟨s, G0.le.1, a1, G0.le.2⟩
  have S1 := G1.1
  have te := tokS (tx := tx) (n := n) (s := s) ht
  simp (maxSteps := 3000000) (disch := first | assumption | omega) only [m_X12_sign, bO_v, bR_v, bX_l, bX_r, bC_l, bC_r, aLet_v, nI_add, pk_mul, dvI_n, rmI_n, iMax_n, iMin_n, zO_0, zO_1, li_0, li_1, li_2, li_3, li_4, li_5, li_6, li_7, li_8, li_9, li_10, li_12, li_14, li_15, li_16, li_18, li_19, li_20, li_22, li_23, li_24, li_26, li_29, li_30, li_31, li_32, li_36, li_38, li_48, li_50, li_57, li_58, li_59, li_60, li_63, li_97, li_99, li_120, li_122, li_144, li_168, li_194, li_240, li_255, li_284, li_299, li_603, li_999, li_1200, li_1440, li_4095, li_4096, li_6030, li_16384, li_20160, zl0, zl1, zl2, zl3, zl4, ze01, ze02, ze03, ze04, ze10, ze12, ze13, ze14, ze20, ze21, ze23, ze24, ze30, ze31, ze32, ze34, ze40, ze41, ze42, ze43, zt0, zt1, zt2, zt3, zt4, zq0, zq1, zq2, zq3, zq4, it_t, it_f, Bool.true_eq_false, Bool.false_eq_true, na5, na4, na1441, na2, na10, sx_IOIA, sx_IOIS, sx_IONS, sx_IAIO, sx_IAIS, sx_IANS, sx_ISIO, sx_ISIA, sx_ISNS, sx_NSIO, sx_NSIA, sx_NSIS, r_cM_gS g1, e1, b2i_0, decide_eq_false_iff_not]
  refine aJ_gen (R := fun o => YP n h0 o _ _ _) (fun k30 hk30 => ?_)
  unfold sSym
  by_cases cc : s < n ∧ tx s = c
  · rw [if_neg (fun q => q cc), if_pos (te.mpr cc)]
    simp (maxSteps := 3000000) (disch := first | assumption | omega) only [bO_v, bR_v, bX_l, bX_r, bC_l, bC_r, aLet_v, nI_add, pk_mul, dvI_n, rmI_n, iMax_n, iMin_n, zO_0, zO_1, li_0, li_1, li_2, li_3, li_4, li_5, li_6, li_7, li_8, li_9, li_10, li_12, li_14, li_15, li_16, li_18, li_19, li_20, li_22, li_23, li_24, li_26, li_29, li_30, li_31, li_32, li_36, li_38, li_48, li_50, li_57, li_58, li_59, li_60, li_63, li_97, li_99, li_120, li_122, li_144, li_168, li_194, li_240, li_255, li_284, li_299, li_603, li_999, li_1200, li_1440, li_4095, li_4096, li_6030, li_16384, li_20160, zl0, zl1, zl2, zl3, zl4, ze01, ze02, ze03, ze04, ze10, ze12, ze13, ze14, ze20, ze21, ze23, ze24, ze30, ze31, ze32, ze34, ze40, ze41, ze42, ze43, zt0, zt1, zt2, zt3, zt4, zq0, zq1, zq2, zq3, zq4, it_t, it_f, Bool.true_eq_false, Bool.false_eq_true, na5, na4, na1441, na2, na10, sx_IOIA, sx_IOIS, sx_IONS, sx_IAIO, sx_IAIS, sx_IANS, sx_ISIO, sx_ISIA, sx_ISNS, sx_NSIO, sx_NSIA, sx_NSIS, r_cM_gi S1, a1, r_cM_pi S1]
    rw [hk30]
    have F2 : Fx (fun o k => o = 412 ∧ k = 30) h1 (h_si h1 412 30 (nI (s + 1))) := Fx.si ⟨rfl, rfl⟩
    have Z2 : RZ h1 (h_si h1 412 30 (nI (s + 1))) := RZ.fx F2 (fun o k r => by unfold RSx; omega)
    refine ok_ret ⟨G1.rz Z2 ⟨F2.iv (by omega), F2.iv (by omega), F2.iv (by omega)⟩ ⟨s + 1, by omega, si_at, ?_⟩, Z1.trans Z2⟩
    unfold adv
    rw [nxtS ht (te.mpr cc)]
  · rw [if_pos cc, if_neg (fun q => cc (te.mp q))]
    obtain ⟨h2, e2, b2, F2⟩ := y_fault (n := n) S1 G1.2.1 G1.2.2.1 G1.2.2.2.1 G0.le.1 a1 (c := 1) (w := s)
    simp (maxSteps := 3000000) (disch := first | assumption | omega) only [bO_v, bR_v, bX_l, bX_r, bC_l, bC_r, aLet_v, nI_add, pk_mul, dvI_n, rmI_n, iMax_n, iMin_n, zO_0, zO_1, li_0, li_1, li_2, li_3, li_4, li_5, li_6, li_7, li_8, li_9, li_10, li_12, li_14, li_15, li_16, li_18, li_19, li_20, li_22, li_23, li_24, li_26, li_29, li_30, li_31, li_32, li_36, li_38, li_48, li_50, li_57, li_58, li_59, li_60, li_63, li_97, li_99, li_120, li_122, li_144, li_168, li_194, li_240, li_255, li_284, li_299, li_603, li_999, li_1200, li_1440, li_4095, li_4096, li_6030, li_16384, li_20160, zl0, zl1, zl2, zl3, zl4, ze01, ze02, ze03, ze04, ze10, ze12, ze13, ze14, ze20, ze21, ze23, ze24, ze30, ze31, ze32, ze34, ze40, ze41, ze42, ze43, zt0, zt1, zt2, zt3, zt4, zq0, zq1, zq2, zq3, zq4, it_t, it_f, Bool.true_eq_false, Bool.false_eq_true, na5, na4, na1441, na2, na10, sx_IOIA, sx_IOIS, sx_IONS, sx_IAIO, sx_IAIS, sx_IANS, sx_ISIO, sx_ISIA, sx_ISNS, sx_NSIO, sx_NSIA, sx_NSIS, r_cM_gi S1, a1, r_cM_gS S1, e2]
    rw [hk30]
    exact ok_ret ⟨b2, Z1.trans (RZ.fx F2 (fun o k r => r))⟩
theorem y_number (X : TR tx n h0) (G : GS tx n h0 h s) {lo hi : Nat} (hl : lo < 100000) (hh : hi < 100000) : YP n h0 (m_X12_number 412 (nI lo) (nI hi) h) (sNum tx n s lo hi) (fun r h1 => RZ h h1 ∧ ∃ v, v < 100000 ∧ r = nI v) (fun a r h1 => GS tx n h0 h1 a.2 ∧ RZ h h1 ∧ r = nI a.1 ∧ h_iv h1 412 35 = nI s) := by
  have G0 := G
  obtain ⟨g1, g2, g3, g4, ⟨p, p1, p2, p3⟩, g6, g7⟩ := G
  have X0 := X.ry g2
  have x1 := X.1
  obtain ⟨_, h1, e1, F1, a1⟩ := y_blanks g1 X0 p2 p1
  rw [p3] at a1
  have sl := G0.le
  have S1 := F1.sh g1
  have S2 : Sh (h_si h1 412 35 (nI s)) := S1.si _ _ _
  simp (maxSteps := 3000000) (disch := first | assumption | omega) only [m_X12_number, bO_v, bR_v, bX_l, bX_r, bC_l, bC_r, aLet_v, nI_add, pk_mul, dvI_n, rmI_n, iMax_n, iMin_n, zO_0, zO_1, li_0, li_1, li_2, li_3, li_4, li_5, li_6, li_7, li_8, li_9, li_10, li_12, li_14, li_15, li_16, li_18, li_19, li_20, li_22, li_23, li_24, li_26, li_29, li_30, li_31, li_32, li_36, li_38, li_48, li_50, li_57, li_58, li_59, li_60, li_63, li_97, li_99, li_120, li_122, li_144, li_168, li_194, li_240, li_255, li_284, li_299, li_603, li_999, li_1200, li_1440, li_4095, li_4096, li_6030, li_16384, li_20160, zl0, zl1, zl2, zl3, zl4, ze01, ze02, ze03, ze04, ze10, ze12, ze13, ze14, ze20, ze21, ze23, ze24, ze30, ze31, ze32, ze34, ze40, ze41, ze42, ze43, zt0, zt1, zt2, zt3, zt4, zq0, zq1, zq2, zq3, zq4, it_t, it_f, Bool.true_eq_false, Bool.false_eq_true, na5, na4, na1441, na2, na10, sx_IOIA, sx_IOIS, sx_IONS, sx_IAIO, sx_IAIS, sx_IANS, sx_ISIO, sx_ISIA, sx_ISNS, sx_NSIO, sx_NSIA, sx_NSIS, r_cM_gS g1, e1, r_cM_gi S1, a1, r_cM_pi S1, r_cM_pi S2]
  have F3 : Fx (fun o k => o = 412 ∧ (k = 30 ∨ k = 34 ∨ k = 35)) h (h_si (h_si h1 412 35 (nI s)) 412 34 (nI 0)) := ((F1.mono (fun o k r => ⟨r.1, Or.inl r.2⟩)).trans (Fx.si ⟨rfl, by omega⟩)).trans (Fx.si ⟨rfl, by omega⟩)
  have b30 : h_iv (h_si (h_si h1 412 35 (nI s)) 412 34 (nI 0)) 412 30 = nI s := by rw [si_ne (by omega), si_ne (by omega)]; exact a1
  have b34 : h_iv (h_si (h_si h1 412 35 (nI s)) 412 34 (nI 0)) 412 34 = nI 0 := si_at
  have b35 : h_iv (h_si (h_si h1 412 35 (nI s)) 412 34 (nI 0)) 412 35 = nI s := by rw [si_ne (by omega), si_at]
  generalize h_si (h_si h1 412 35 (nI s)) 412 34 (nI 0) = h3 at *
  generalize hB : (fun (r : Int32) (h1 : aH) => RZ h h1 ∧ ∃ v, v < 100000 ∧ r = nI v) = B
  generalize hK : (fun (a : Nat × Nat) (r : Int32) (h1 : aH) => GS tx n h0 h1 a.2 ∧ RZ h h1 ∧ r = nI a.1 ∧ h_iv h1 412 35 = nI s) = K
  refine aJ_gen (R := fun o => YP n h0 o _ B K) (fun k82 hk82 => ?_)
  have dl : dle tx n s ≤ n - s := run_le
  have dec : ∀ k, k < dle tx n s → 48 ≤ tx (s + k) ∧ tx (s + k) ≤ 57 := fun k hk => of_decide_eq_true (run_in (q := isDg) hk)
  have vb : ∀ j, j ≤ dle tx n s → val tx s (min j 5) < 100000 := fun j hj => by
    have := val_lt (tx := tx) (s := s) (k := min j 5) (fun i hi => run_in (n := n) (q := isDg) (by
      have : i < j := by omega
      unfold dle at hj; omega))
    have h2 : 10 ^ min j 5 ≤ 10 ^ 5 := Nat.pow_le_pow_right (by decide) (by omega)
    have h3 : (10 : Nat) ^ 5 = 100000 := by decide
    omega
  refine aL1_run (R := fun o => YP n h0 o (sNum tx n s lo hi) B K) (fun m s1 g => ∃ j, j ≤ dle tx n s ∧ m = dle tx n s - j ∧ s1 = nI j ∧ Fx (fun o k => o = 412 ∧ (k = 30 ∨ k = 34)) h3 g ∧ h_iv g 412 30 = nI (s + j) ∧ h_iv g 412 34 = nI (val tx s (min j 5))) ⟨0, Nat.zero_le _, rfl, rfl, Fx.rf, b30, b34⟩ (by omega) ?_
  rintro rec m s1 g ⟨j, hj, rfl, rfl, F4, c30, c34⟩ ih
  have F4' : Fx (fun o k => o = 412 ∧ (k = 30 ∨ k = 34 ∨ k = 35)) h g := F3.trans (F4.mono (fun o k r => ⟨r.1, by omega⟩))
  have S4 := F4'.sh g1
  have X4 := X0.ry (RY.fx F4' (fun o k r => by unfold RX; omega))
  have il := y_isDg S4 X4 (p := s + j) (by omega)
  rw [run_at hj sl.1] at il
  simp (maxSteps := 3000000) (disch := first | assumption | omega) only [m_X12_number_L19, bO_v, bR_v, bX_l, bX_r, bC_l, bC_r, aLet_v, nI_add, pk_mul, dvI_n, rmI_n, iMax_n, iMin_n, zO_0, zO_1, li_0, li_1, li_2, li_3, li_4, li_5, li_6, li_7, li_8, li_9, li_10, li_12, li_14, li_15, li_16, li_18, li_19, li_20, li_22, li_23, li_24, li_26, li_29, li_30, li_31, li_32, li_36, li_38, li_48, li_50, li_57, li_58, li_59, li_60, li_63, li_97, li_99, li_120, li_122, li_144, li_168, li_194, li_240, li_255, li_284, li_299, li_603, li_999, li_1200, li_1440, li_4095, li_4096, li_6030, li_16384, li_20160, zl0, zl1, zl2, zl3, zl4, ze01, ze02, ze03, ze04, ze10, ze12, ze13, ze14, ze20, ze21, ze23, ze24, ze30, ze31, ze32, ze34, ze40, ze41, ze42, ze43, zt0, zt1, zt2, zt3, zt4, zq0, zq1, zq2, zq3, zq4, it_t, it_f, Bool.true_eq_false, Bool.false_eq_true, na5, na4, na1441, na2, na10, sx_IOIA, sx_IOIS, sx_IONS, sx_IAIO, sx_IAIS, sx_IANS, sx_ISIO, sx_ISIA, sx_ISNS, sx_NSIO, sx_NSIA, sx_NSIS, r_cM_gi S4, c30, r_cM_gS S4, il, b2i_0, decide_eq_false_iff_not]
  by_cases c : j < dle tx n s
  · have tb := X4.2.2 (s + j) (by omega)
    have dg := dec j c
    have vj := vb j hj
    rw [if_neg (fun q => q c)]
    refine aJ_gen (R := fun o => YP n h0 o _ B K) (fun k63 hk63 => ?_)
    have go : ∀ y, y = val tx s (min (j + 1) 5) → YP n h0 (k63 (nI y) g) (sNum tx n s lo hi) B K := fun y hy => by
      rw [hk63]
      have S5 : Sh (h_si g 412 34 (nI y)) := S4.si _ _ _
      have d30 : h_iv (h_si g 412 34 (nI y)) 412 30 = nI (s + j) := by rw [si_ne (by omega)]; exact c30
      simp (maxSteps := 3000000) (disch := first | assumption | omega) only [bO_v, bR_v, bX_l, bX_r, bC_l, bC_r, aLet_v, nI_add, pk_mul, dvI_n, rmI_n, iMax_n, iMin_n, zO_0, zO_1, li_0, li_1, li_2, li_3, li_4, li_5, li_6, li_7, li_8, li_9, li_10, li_12, li_14, li_15, li_16, li_18, li_19, li_20, li_22, li_23, li_24, li_26, li_29, li_30, li_31, li_32, li_36, li_38, li_48, li_50, li_57, li_58, li_59, li_60, li_63, li_97, li_99, li_120, li_122, li_144, li_168, li_194, li_240, li_255, li_284, li_299, li_603, li_999, li_1200, li_1440, li_4095, li_4096, li_6030, li_16384, li_20160, zl0, zl1, zl2, zl3, zl4, ze01, ze02, ze03, ze04, ze10, ze12, ze13, ze14, ze20, ze21, ze23, ze24, ze30, ze31, ze32, ze34, ze40, ze41, ze42, ze43, zt0, zt1, zt2, zt3, zt4, zq0, zq1, zq2, zq3, zq4, it_t, it_f, Bool.true_eq_false, Bool.false_eq_true, na5, na4, na1441, na2, na10, sx_IOIA, sx_IOIS, sx_IONS, sx_IAIO, sx_IAIS, sx_IANS, sx_ISIO, sx_ISIA, sx_ISNS, sx_NSIO, sx_NSIA, sx_NSIS, r_cM_pi S4, r_cM_gi S5, d30, r_cM_pi S5]
      exact ih _ _ _ (by omega) ⟨j + 1, c, rfl, rfl, (F4.trans (Fx.si (A := fun o k => o = 412 ∧ (k = 30 ∨ k = 34)) ⟨rfl, Or.inr rfl⟩)).trans (Fx.si ⟨rfl, Or.inl rfl⟩), si_at, by rw [si_ne (by omega), si_at, hy]⟩
    by_cases c5 : j < 5
    · have m5 : min j 5 = j := by omega
      rw [m5] at c34 vj
      have st : nI 10 * nI (val tx s j) + nI (tx (s + j)) - nI 48 = nI (val tx s (j + 1)) := by
        rw [pk_mul, nI_add, pk_sub (by omega), val]
        congr 1
        omega
      simp (maxSteps := 3000000) (disch := first | assumption | omega) only [bO_v, nI_ltI, li_5, li_10, li_48, r_p435 S4, r_cM_gi S4, c30, c34, r_c435_al S4, tb.2, if_pos c5, st]
      exact go _ (by rw [show min (j + 1) 5 = j + 1 by omega])
    · simp (maxSteps := 3000000) (disch := first | assumption | omega) only [bO_v, bR_v, bX_l, bX_r, bC_l, bC_r, aLet_v, nI_add, pk_mul, dvI_n, rmI_n, iMax_n, iMin_n, zO_0, zO_1, li_0, li_1, li_2, li_3, li_4, li_5, li_6, li_7, li_8, li_9, li_10, li_12, li_14, li_15, li_16, li_18, li_19, li_20, li_22, li_23, li_24, li_26, li_29, li_30, li_31, li_32, li_36, li_38, li_48, li_50, li_57, li_58, li_59, li_60, li_63, li_97, li_99, li_120, li_122, li_144, li_168, li_194, li_240, li_255, li_284, li_299, li_603, li_999, li_1200, li_1440, li_4095, li_4096, li_6030, li_16384, li_20160, zl0, zl1, zl2, zl3, zl4, ze01, ze02, ze03, ze04, ze10, ze12, ze13, ze14, ze20, ze21, ze23, ze24, ze30, ze31, ze32, ze34, ze40, ze41, ze42, ze43, zt0, zt1, zt2, zt3, zt4, zq0, zq1, zq2, zq3, zq4, it_t, it_f, Bool.true_eq_false, Bool.false_eq_true, na5, na4, na1441, na2, na10, sx_IOIA, sx_IOIS, sx_IONS, sx_IAIO, sx_IAIS, sx_IANS, sx_ISIO, sx_ISIA, sx_ISNS, sx_NSIO, sx_NSIA, sx_NSIS, nI_ltI, r_cM_gi S4, c34, if_neg c5]
      exact go _ (by rw [show min (j + 1) 5 = min j 5 by omega])
  · obtain rfl : j = dle tx n s := by omega
    have vj := vb _ (Nat.le_refl (dle tx n s))
    rw [if_pos (show ¬ dle tx n s < run tx isDg n s from c), hk82]
    clear ih
    have Z4 : RZ h g := RZ.fx F4' (fun o k r => by unfold RSx; omega)
    have c35 : h_iv g 412 35 = nI s := by rw [F4.iv (by omega)]; exact b35
    have c33 : h_iv g 412 33 = nI 0 := by rw [F4'.iv (by omega)]; exact g4
    refine aJ_gen (R := fun o => YP n h0 o _ B K) (fun k127 hk127 => ?_)
    have bad : ∀ (q : Nat) h2, Fx RSx g h2 → h_iv h2 412 34 = h_iv g 412 34 → BE n h0 h2 (q, s) → sNum tx n s lo hi = .inl (q, s) → YP n h0 (k127 h2) (sNum tx n s lo hi) B K := fun q h2 F5 e34 b2 es => by
      rw [hk127, es, ← hB]
      simp (maxSteps := 3000000) (disch := first | assumption | omega) only [bO_v, bR_v, bX_l, bX_r, bC_l, bC_r, aLet_v, nI_add, pk_mul, dvI_n, rmI_n, iMax_n, iMin_n, zO_0, zO_1, li_0, li_1, li_2, li_3, li_4, li_5, li_6, li_7, li_8, li_9, li_10, li_12, li_14, li_15, li_16, li_18, li_19, li_20, li_22, li_23, li_24, li_26, li_29, li_30, li_31, li_32, li_36, li_38, li_48, li_50, li_57, li_58, li_59, li_60, li_63, li_97, li_99, li_120, li_122, li_144, li_168, li_194, li_240, li_255, li_284, li_299, li_603, li_999, li_1200, li_1440, li_4095, li_4096, li_6030, li_16384, li_20160, zl0, zl1, zl2, zl3, zl4, ze01, ze02, ze03, ze04, ze10, ze12, ze13, ze14, ze20, ze21, ze23, ze24, ze30, ze31, ze32, ze34, ze40, ze41, ze42, ze43, zt0, zt1, zt2, zt3, zt4, zq0, zq1, zq2, zq3, zq4, it_t, it_f, Bool.true_eq_false, Bool.false_eq_true, na5, na4, na1441, na2, na10, sx_IOIA, sx_IOIS, sx_IONS, sx_IAIO, sx_IAIS, sx_IANS, sx_ISIO, sx_ISIA, sx_ISNS, sx_NSIO, sx_NSIA, sx_NSIS, r_cM_gi b2.1, e34, c34]
      exact ok_ret ⟨b2, Z4.trans (RZ.fx F5 (fun o k r => r)), _, vj, rfl⟩
    have f34 : ∀ {q w : Nat}, h_iv (h_si (h_si (h_si g 412 33 (nI 1)) 412 31 (nI q)) 412 32 (nI w)) 412 34 = h_iv g 412 34 := fun {q w} => by rw [si_ne (by omega), si_ne (by omega), si_ne (by omega)]
    have RYg : RY h0 g := g2.trans Z4.ry
    have JNg : JN g := g3.rz Z4
    have flt : ∀ q, ∃ h2, m_X12_fault 412 (nI q) (nI s) g = some ((), h2) ∧ BE n h0 h2 (q, s) ∧ Fx RSx g h2 ∧ h_iv h2 412 34 = h_iv g 412 34 := fun q => by
      obtain ⟨h2, e2, b2, F2⟩ := y_fault (n := n) S4 RYg JNg c33 (show s + dle tx n s ≤ n by omega) c30 (c := q) (w := s)
      refine ⟨h2, e2, b2, F2, ?_⟩
      have w1 : pz g 12 412 33 (nI 1) = some (h_si g 412 33 (nI 1)) := pz_ok (r_cM S4) (Or.inr rfl)
      have S5 : Sh (h_si g 412 33 (nI 1)) := S4.si _ _ _
      have S6 : Sh (h_si (h_si g 412 33 (nI 1)) 412 31 (nI q)) := S5.si _ _ _
      have z : (nI 0 = nI 0) = True := eq_self _
      simp (maxSteps := 3000000) (disch := first | assumption | omega) only [m_X12_fault, bO_v, bR_v, bX_l, bX_r, bC_l, bC_r, aJ_v, aLet_v, nI_add, pk_mul, dvI_n, rmI_n, iMax_n, iMin_n, zO_0, zO_1, li_0, li_1, li_2, li_3, li_4, li_5, li_6, li_7, li_8, li_9, li_10, li_12, li_14, li_15, li_16, li_18, li_19, li_20, li_22, li_23, li_24, li_26, li_29, li_30, li_31, li_32, li_36, li_38, li_48, li_50, li_57, li_58, li_59, li_60, li_63, li_97, li_99, li_120, li_122, li_144, li_168, li_194, li_240, li_255, li_284, li_299, li_603, li_999, li_1200, li_1440, li_4095, li_4096, li_6030, li_16384, li_20160, zl0, zl1, zl2, zl3, zl4, ze01, ze02, ze03, ze04, ze10, ze12, ze13, ze14, ze20, ze21, ze23, ze24, ze30, ze31, ze32, ze34, ze40, ze41, ze42, ze43, zt0, zt1, zt2, zt3, zt4, zq0, zq1, zq2, zq3, zq4, it_t, it_f, Bool.true_eq_false, Bool.false_eq_true, na5, na4, na1441, na2, na10, sx_IOIA, sx_IOIS, sx_IONS, sx_IAIO, sx_IAIS, sx_IANS, sx_ISIO, sx_ISIA, sx_ISNS, sx_NSIO, sx_NSIA, sx_NSIS, r_cM_gi S4, c33, z, w1, r_cM_pi S5, r_cM_pi S6] at e2
      injection e2 with e2
      injection e2 with _ e2
      rw [← e2]
      exact f34
    refine aJ_gen (R := fun o => YP n h0 o _ B K) (fun k91 hk91 => ?_)
    have nb : tok tx n s ≠ 2 → YP n h0 (k91 g) (sNum tx n s lo hi) B K := fun q => by
      obtain ⟨h2, e2, b2, F2, f2⟩ := flt 1
      rw [hk91]
      simp (maxSteps := 3000000) (disch := first | assumption | omega) only [bO_v, bR_v, bX_l, bX_r, bC_l, bC_r, aLet_v, nI_add, pk_mul, dvI_n, rmI_n, iMax_n, iMin_n, zO_0, zO_1, li_0, li_1, li_2, li_3, li_4, li_5, li_6, li_7, li_8, li_9, li_10, li_12, li_14, li_15, li_16, li_18, li_19, li_20, li_22, li_23, li_24, li_26, li_29, li_30, li_31, li_32, li_36, li_38, li_48, li_50, li_57, li_58, li_59, li_60, li_63, li_97, li_99, li_120, li_122, li_144, li_168, li_194, li_240, li_255, li_284, li_299, li_603, li_999, li_1200, li_1440, li_4095, li_4096, li_6030, li_16384, li_20160, zl0, zl1, zl2, zl3, zl4, ze01, ze02, ze03, ze04, ze10, ze12, ze13, ze14, ze20, ze21, ze23, ze24, ze30, ze31, ze32, ze34, ze40, ze41, ze42, ze43, zt0, zt1, zt2, zt3, zt4, zq0, zq1, zq2, zq3, zq4, it_t, it_f, Bool.true_eq_false, Bool.false_eq_true, na5, na4, na1441, na2, na10, sx_IOIA, sx_IOIS, sx_IONS, sx_IAIO, sx_IAIS, sx_IANS, sx_ISIO, sx_ISIA, sx_ISNS, sx_NSIO, sx_NSIA, sx_NSIS, r_cM_gi S4, c35, r_cM_gS S4, e2]
      exact bad 1 h2 F2 f2 b2 (by unfold sNum; rw [if_pos q])
    simp (maxSteps := 3000000) (disch := first | assumption | omega) only [bO_v, bR_v, bX_l, bX_r, bC_l, bC_r, aLet_v, nI_add, pk_mul, dvI_n, rmI_n, iMax_n, iMin_n, zO_0, zO_1, li_0, li_1, li_2, li_3, li_4, li_5, li_6, li_7, li_8, li_9, li_10, li_12, li_14, li_15, li_16, li_18, li_19, li_20, li_22, li_23, li_24, li_26, li_29, li_30, li_31, li_32, li_36, li_38, li_48, li_50, li_57, li_58, li_59, li_60, li_63, li_97, li_99, li_120, li_122, li_144, li_168, li_194, li_240, li_255, li_284, li_299, li_603, li_999, li_1200, li_1440, li_4095, li_4096, li_6030, li_16384, li_20160, zl0, zl1, zl2, zl3, zl4, ze01, ze02, ze03, ze04, ze10, ze12, ze13, ze14, ze20, ze21, ze23, ze24, ze30, ze31, ze32, ze34, ze40, ze41, ze42, ze43, zt0, zt1, zt2, zt3, zt4, zq0, zq1, zq2, zq3, zq4, it_t, it_f, Bool.true_eq_false, Bool.false_eq_true, na5, na4, na1441, na2, na10, sx_IOIA, sx_IOIS, sx_IONS, sx_IAIO, sx_IAIS, sx_IANS, sx_ISIO, sx_ISIA, sx_ISNS, sx_NSIO, sx_NSIA, sx_NSIS, nI_eq, eq_self, nI_leI]
    by_cases c0 : dle tx n s = 0
    · rw [if_pos c0]
      refine nb (fun q => ?_)
      obtain ⟨t1, t2, t3⟩ := tok2.mp q
      have := run_pos t1 t2
      unfold dle at c0
      omega
    · rw [if_neg c0]
      by_cases c5 : dle tx n s ≤ 5
      · rw [if_pos c5]
        have sn : s < n := by omega
        have t2 : tok tx n s = 2 := tok2.mpr ⟨sn, by have := run_in (tx := tx) (q := isDg) (n := n) (p := s) (k := 0) (by unfold dle at c0; omega); exact this, c5⟩
        have en : val tx s (min (dle tx n s) 5) = num tx n s := by rw [show min (dle tx n s) 5 = dle tx n s by omega]; rfl
        rw [en] at c34 vj
        have il : ((nI lo).toInt64.toInt ≤ (nI (num tx n s)).toInt ∧ (nI (num tx n s)).toInt ≤ (nI hi).toInt64.toInt) = (lo ≤ num tx n s ∧ num tx n s ≤ hi) := by
          rw [Int32.toInt_toInt64, Int32.toInt_toInt64, nI_toInt (by omega), nI_toInt (by omega), nI_toInt (by omega)]
          exact propext (by omega)
        simp (maxSteps := 3000000) (disch := first | assumption | omega) only [bO_v, bR_v, bX_l, bX_r, bC_l, bC_r, aLet_v, nI_add, pk_mul, dvI_n, rmI_n, iMax_n, iMin_n, zO_0, zO_1, li_0, li_1, li_2, li_3, li_4, li_5, li_6, li_7, li_8, li_9, li_10, li_12, li_14, li_15, li_16, li_18, li_19, li_20, li_22, li_23, li_24, li_26, li_29, li_30, li_31, li_32, li_36, li_38, li_48, li_50, li_57, li_58, li_59, li_60, li_63, li_97, li_99, li_120, li_122, li_144, li_168, li_194, li_240, li_255, li_284, li_299, li_603, li_999, li_1200, li_1440, li_4095, li_4096, li_6030, li_16384, li_20160, zl0, zl1, zl2, zl3, zl4, ze01, ze02, ze03, ze04, ze10, ze12, ze13, ze14, ze20, ze21, ze23, ze24, ze30, ze31, ze32, ze34, ze40, ze41, ze42, ze43, zt0, zt1, zt2, zt3, zt4, zq0, zq1, zq2, zq3, zq4, it_t, it_f, Bool.true_eq_false, Bool.false_eq_true, na5, na4, na1441, na2, na10, sx_IOIA, sx_IOIS, sx_IONS, sx_IAIO, sx_IAIS, sx_IANS, sx_ISIO, sx_ISIA, sx_ISNS, sx_NSIO, sx_NSIA, sx_NSIS, r_cM_gi S4, c34, y_in, il, b2i_0, decide_eq_false_iff_not]
        by_cases cr : lo ≤ num tx n s ∧ num tx n s ≤ hi
        · rw [if_neg (fun q => q cr), hk127]
          have es : sNum tx n s lo hi = .inr (num tx n s, adv tx n s) := by unfold sNum; rw [if_neg (fun q => q t2), if_pos cr]
          rw [es, ← hK]
          simp (maxSteps := 3000000) (disch := first | assumption | omega) only [bO_v, bR_v, bX_l, bX_r, bC_l, bC_r, aLet_v, nI_add, pk_mul, dvI_n, rmI_n, iMax_n, iMin_n, zO_0, zO_1, li_0, li_1, li_2, li_3, li_4, li_5, li_6, li_7, li_8, li_9, li_10, li_12, li_14, li_15, li_16, li_18, li_19, li_20, li_22, li_23, li_24, li_26, li_29, li_30, li_31, li_32, li_36, li_38, li_48, li_50, li_57, li_58, li_59, li_60, li_63, li_97, li_99, li_120, li_122, li_144, li_168, li_194, li_240, li_255, li_284, li_299, li_603, li_999, li_1200, li_1440, li_4095, li_4096, li_6030, li_16384, li_20160, zl0, zl1, zl2, zl3, zl4, ze01, ze02, ze03, ze04, ze10, ze12, ze13, ze14, ze20, ze21, ze23, ze24, ze30, ze31, ze32, ze34, ze40, ze41, ze42, ze43, zt0, zt1, zt2, zt3, zt4, zq0, zq1, zq2, zq3, zq4, it_t, it_f, Bool.true_eq_false, Bool.false_eq_true, na5, na4, na1441, na2, na10, sx_IOIA, sx_IOIS, sx_IONS, sx_IAIO, sx_IAIS, sx_IANS, sx_ISIO, sx_ISIA, sx_ISNS, sx_NSIO, sx_NSIA, sx_NSIS, r_cM_gi S4, c34]
          refine ok_ret ⟨G0.rz Z4 ⟨F4'.iv (by omega), F4'.iv (by omega), F4'.iv (by omega)⟩ ⟨s + dle tx n s, by omega, c30, ?_⟩, Z4, rfl, c35⟩
          show _ = adv tx n s
          unfold adv
          rw [nxt2 t2]
        · rw [if_pos cr]
          obtain ⟨h2, e2, b2, F2, f2⟩ := flt 2
          simp (maxSteps := 3000000) (disch := first | assumption | omega) only [bO_v, bR_v, bX_l, bX_r, bC_l, bC_r, aLet_v, nI_add, pk_mul, dvI_n, rmI_n, iMax_n, iMin_n, zO_0, zO_1, li_0, li_1, li_2, li_3, li_4, li_5, li_6, li_7, li_8, li_9, li_10, li_12, li_14, li_15, li_16, li_18, li_19, li_20, li_22, li_23, li_24, li_26, li_29, li_30, li_31, li_32, li_36, li_38, li_48, li_50, li_57, li_58, li_59, li_60, li_63, li_97, li_99, li_120, li_122, li_144, li_168, li_194, li_240, li_255, li_284, li_299, li_603, li_999, li_1200, li_1440, li_4095, li_4096, li_6030, li_16384, li_20160, zl0, zl1, zl2, zl3, zl4, ze01, ze02, ze03, ze04, ze10, ze12, ze13, ze14, ze20, ze21, ze23, ze24, ze30, ze31, ze32, ze34, ze40, ze41, ze42, ze43, zt0, zt1, zt2, zt3, zt4, zq0, zq1, zq2, zq3, zq4, it_t, it_f, Bool.true_eq_false, Bool.false_eq_true, na5, na4, na1441, na2, na10, sx_IOIA, sx_IOIS, sx_IONS, sx_IAIO, sx_IAIS, sx_IANS, sx_ISIO, sx_ISIA, sx_ISNS, sx_NSIO, sx_NSIA, sx_NSIS, r_cM_gi S4, c35, r_cM_gS S4, e2]
          rw [← en] at c34 vj
          exact bad 2 h2 F2 f2 b2 (by unfold sNum; rw [if_neg (fun q => q t2), if_neg cr])
      · rw [if_neg c5]
        exact nb (fun q => c5 (tok2.mp q).2.2)
end
