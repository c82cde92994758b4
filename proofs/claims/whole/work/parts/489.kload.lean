/-! the class loads -/
/-- what a load of the class may change -/
def LW (Q : Nat) (h h1 : aH) : Prop := h_nx h ≤ h_nx h1 ∧ h_nx h1 ≤ h_nx h + 1 ∧ h_sl h1 ≤ h_sl h + 6 ∧ h_sh h1 = h_sh h ∧ h_ln h1 = h_ln h ∧ (∀ o k, ¬ (o = 3 ∨ (Q ≤ o ∧ o < Q + 65) ∨ (o = 1 ∧ k = 1) ∨ (134 ≤ o ∧ o < 152) ∨ (o = 180 ∧ k = 0) ∨ o = 183) → h_iv h1 o k = h_iv h o k) ∧ (∀ o k, ¬ ((o = 3 ∧ k = 2) ∨ (o = 1 ∧ (k = 3 ∨ k = 4)) ∨ (o = 134 ∧ k = 0)) → h_rv h1 o k = h_rv h o k) ∧ ∀ o k, ¬ (o = 3 ∨ (Q ≤ o ∧ o < Q + 65)) → h_lv h1 o k = h_lv h o k
section
variable {h : aH} {tx : Nat → Nat} {n P Q : Nat} {M : Nat → Nat → Nat}
theorem LW.trans {h1 h2 : aH} (x : LW Q h h1) (y : LW Q h1 h2) (e : h_nx h1 = h_nx h) (e2 : h_sl h1 = h_sl h) : LW Q h h2 := by
  obtain ⟨x1, x2, x3, x4, x5, x6, x7, x8⟩ := x
  obtain ⟨y1, y2, y3, y4, y5, y6, y7, y8⟩ := y
  exact ⟨by omega, by omega, by omega, y4.trans x4, y5.trans x5, fun o k r => (y6 o k r).trans (x6 o k r), fun o k r => (y7 o k r).trans (x7 o k r), fun o k r => (y8 o k r).trans (x8 o k r)⟩
theorem LW.kx {h1 : aH} (x : KX Q h h1) : LW Q h h1 := by
  obtain ⟨x1, x2, x3, x4, x5, x6, x7⟩ := x
  exact ⟨by omega, by omega, by omega, x3, x4, fun o k r => x5 o k (by omega), fun o k r => x6 o k (by omega), fun o k r => x7 o k r⟩
theorem LW.fx {A : Nat → Nat → Prop} {h1 : aH} (x : Fx A h h1) (hA : ∀ o k, A o k → (o = 1 ∧ k = 1) ∨ (134 ≤ o ∧ o < 152) ∨ (o = 180 ∧ k = 0) ∨ o = 183) : LW Q h h1 := by
  obtain ⟨x1, x2, x3, x4, x5, x6, x7⟩ := x
  exact ⟨by omega, by omega, by omega, x3, x4, fun o k r => x7 o k (fun q => by have := hA o k q; omega), fun o k r => by rw [x5], fun o k r => by rw [x6]⟩
theorem LW.cq {h1 : aH} (x : Cq 134 h h1) : LW Q h h1 := by
  obtain ⟨x1, x2, x3, x4, x5, x6, x7⟩ := x
  exact ⟨by omega, by omega, by omega, x3, x4, fun o k r => by rw [x6 o (by omega)], fun o k r => x7 o k (by omega), fun o k r => by rw [x5]⟩
theorem LW.exc : LW Q h (h_exc h) := ⟨Nat.le_succ _, Nat.le_refl _, Nat.le_refl _, rfl, rfl, fun _ _ _ => rfl, fun _ _ _ => rfl, fun _ _ _ => rfl⟩
theorem k_hclear (hS : Sh h) : OK (m_X2_clear 180 h) (fun _ h1 => Fx (fun o k => (o = 180 ∧ k = 0) ∨ o = 183) h h1 ∧ h_iv h1 180 0 = nI 0 ∧ ∀ s, s < 2 → h_iv h1 183 s = nI 0) := by
  have S1 : Sh (h_si h 180 0 (nI 0)) := hS.si _ _ _
  simp (maxSteps := 3000000) (disch := first | assumption | omega) only [m_X2_clear, bO_v, bR_v, bX_l, bX_r, bC_l, bC_r, aLet_v, nI_add, pk_mul, dvI_n, rmI_n, iMax_n, iMin_n, zO_0, zO_1, li_0, li_1, li_2, li_3, li_4, li_5, li_6, li_7, li_8, li_9, li_10, li_12, li_14, li_15, li_16, li_18, li_19, li_20, li_22, li_23, li_24, li_26, li_29, li_30, li_31, li_32, li_36, li_38, li_48, li_50, li_57, li_58, li_59, li_60, li_63, li_97, li_99, li_120, li_122, li_144, li_168, li_194, li_240, li_255, li_284, li_299, li_603, li_999, li_1200, li_1440, li_4095, li_4096, li_6030, li_16384, li_20160, zl0, zl1, zl2, zl3, zl4, ze01, ze02, ze03, ze04, ze10, ze12, ze13, ze14, ze20, ze21, ze23, ze24, ze30, ze31, ze32, ze34, ze40, ze41, ze42, ze43, zt0, zt1, zt2, zt3, zt4, zq0, zq1, zq2, zq3, zq4, it_t, it_f, Bool.true_eq_false, Bool.false_eq_true, na5, na4, na1441, na2, na10, sx_IOIA, sx_IOIS, sx_IONS, sx_IAIO, sx_IAIS, sx_IANS, sx_ISIO, sx_ISIA, sx_ISNS, sx_NSIO, sx_NSIA, sx_NSIS, c_cH_pi hS]
  have F1 : Fx (fun o k => (o = 180 ∧ k = 0) ∨ o = 183) h (h_si h 180 0 (nI 0)) := Fx.si (Or.inl ⟨rfl, rfl⟩)
  have t1 : h_iv (h_si h 180 0 (nI 0)) 180 0 = nI 0 := si_at
  generalize h_si h 180 0 (nI 0) = g1 at *
  refine aJ_gen (R := fun o => OK o _) (fun k25 hk25 => ?_)
  refine aL1_run (R := fun o => OK o _) (fun m s1 g => ∃ i, i ≤ 2 ∧ m = 2 - i ∧ s1 = nI i ∧ Fx (fun o _ => o = 183) g1 g ∧ ∀ k, k < i → h_iv g 183 k = nI 0) ⟨0, Nat.zero_le _, rfl, rfl, Fx.rf, fun k r => absurd r (Nat.not_lt_zero k)⟩ (by omega) ?_
  rintro rec m s1 g ⟨i, hi, rfl, rfl, F, f⟩ ih
  have Sg := F.sh S1
  by_cases hlt : i < 2
  · have w : asz g 183 (nI i) (nI 0) = some (h_si g 183 i (nI 0)) := c_cfill_as Sg hlt (Or.inl rfl)
    simp (maxSteps := 3000000) (disch := first | assumption | omega) only [m_X2_clear_L7, bO_v, bR_v, bX_l, bX_r, bC_l, bC_r, aLet_v, nI_add, pk_mul, dvI_n, rmI_n, iMax_n, iMin_n, zO_0, zO_1, li_0, li_1, li_2, li_3, li_4, li_5, li_6, li_7, li_8, li_9, li_10, li_12, li_14, li_15, li_16, li_18, li_19, li_20, li_22, li_23, li_24, li_26, li_29, li_30, li_31, li_32, li_36, li_38, li_48, li_50, li_57, li_58, li_59, li_60, li_63, li_97, li_99, li_120, li_122, li_144, li_168, li_194, li_240, li_255, li_284, li_299, li_603, li_999, li_1200, li_1440, li_4095, li_4096, li_6030, li_16384, li_20160, zl0, zl1, zl2, zl3, zl4, ze01, ze02, ze03, ze04, ze10, ze12, ze13, ze14, ze20, ze21, ze23, ze24, ze30, ze31, ze32, ze34, ze40, ze41, ze42, ze43, zt0, zt1, zt2, zt3, zt4, zq0, zq1, zq2, zq3, zq4, it_t, it_f, Bool.true_eq_false, Bool.false_eq_true, na5, na4, na1441, na2, na10, sx_IOIA, sx_IOIS, sx_IONS, sx_IAIO, sx_IAIS, sx_IANS, sx_ISIO, sx_ISIA, sx_ISNS, sx_NSIO, sx_NSIA, sx_NSIS, nI_ltI, c_pfill Sg, w]
    rw [if_pos hlt]
    refine ih _ _ _ (by omega) ⟨i + 1, hlt, rfl, rfl, F.trans (Fx.si (A := fun o _ => o = 183) rfl), fun k hk => ?_⟩
    by_cases c : k = i
    · rw [c, si_at]
    · rw [si_ne (by omega)]; exact f k (by omega)
  · obtain rfl : i = 2 := by omega
    simp (maxSteps := 3000000) (disch := first | assumption | omega) only [m_X2_clear_L7, bO_v, bR_v, bX_l, bX_r, bC_l, bC_r, aLet_v, nI_add, pk_mul, dvI_n, rmI_n, iMax_n, iMin_n, zO_0, zO_1, li_0, li_1, li_2, li_3, li_4, li_5, li_6, li_7, li_8, li_9, li_10, li_12, li_14, li_15, li_16, li_18, li_19, li_20, li_22, li_23, li_24, li_26, li_29, li_30, li_31, li_32, li_36, li_38, li_48, li_50, li_57, li_58, li_59, li_60, li_63, li_97, li_99, li_120, li_122, li_144, li_168, li_194, li_240, li_255, li_284, li_299, li_603, li_999, li_1200, li_1440, li_4095, li_4096, li_6030, li_16384, li_20160, zl0, zl1, zl2, zl3, zl4, ze01, ze02, ze03, ze04, ze10, ze12, ze13, ze14, ze20, ze21, ze23, ze24, ze30, ze31, ze32, ze34, ze40, ze41, ze42, ze43, zt0, zt1, zt2, zt3, zt4, zq0, zq1, zq2, zq3, zq4, it_t, it_f, Bool.true_eq_false, Bool.false_eq_true, na5, na4, na1441, na2, na10, sx_IOIA, sx_IOIS, sx_IONS, sx_IAIO, sx_IAIS, sx_IANS, sx_ISIO, sx_ISIA, sx_ISNS, sx_NSIO, sx_NSIA, sx_NSIS, nI_ltI]
    rw [if_neg hlt, hk25]
    exact ok_ret ⟨F1.trans (F.mono (fun o k r => Or.inr r)), by rw [F.iv (by omega)]; exact t1, f⟩
/-- the class has loaded M -/
def LG (tx : Nat → Nat) (n P Q : Nat) (M : Nat → Nat → Nat) (h1 : aH) : Prop := h_rv h1 1 3 = Q ∧ h_rv h1 1 4 = P ∧ PQ tx n Q M h1 ∧ WM M ∧ StR h1 134 Q M (rwM M) ∧ h_iv h1 180 0 = nI 0 ∧ (∀ s, s < 2 → h_iv h1 183 s = nI 0) ∧ h_iv h1 3 9 = nI 0 ∧ h_iv h1 3 10 = -nI 1
theorem k_load (hS : Sh h) (X : TX tx n h) (en : h_iv h 1 1 = nI n) (hP : P ∈ plL) (hQ : Q ∈ plL) (r3 : h_rv h 1 3 = P) (r4 : h_rv h 1 4 = Q) (hX : ∃ X, h_iv h 145 2 = nI X ∧ X < 65536) : OK (m_X11_load 1 h) (fun r h1 => Sh h1 ∧ LW Q h h1 ∧ h_iv h1 1 1 = nI 0 ∧ match sText tx n with
    | .inl e => r = .inr "java/lang/IllegalArgumentException" ∧ h_iv h1 3 9 = nI e.1 ∧ h_iv h1 3 10 = nI e.2 ∧ h_rv h1 1 3 = P ∧ h_rv h1 1 4 = Q ∧ h_rv h1 134 0 = h_rv h 134 0 ∧ (∀ o k, 134 ≤ o → o < 463 → h_iv h1 o k = h_iv h o k)
    | .inr M => r = .inl (nI (M 412 8)) ∧ h_nx h1 = h_nx h ∧ h_sl h1 = h_sl h ∧ LG tx n P Q M h1) := by
  have q := pl_in Q hQ
  have g4 : gr h 11 1 4 = some Q := gr_ok9 (c_cX hS) r4 (pl_ne0 Q hQ)
  obtain ⟨r, h1, e1, S1, K1, hh⟩ := k_reads hS X hQ
  simp (maxSteps := 3000000) (disch := first | assumption | omega) only [m_X11_load, bO_v, bR_v, bX_l, bX_r, bC_l, bC_r, aLet_v, nI_add, pk_mul, dvI_n, rmI_n, iMax_n, iMin_n, zO_0, zO_1, li_0, li_1, li_2, li_3, li_4, li_5, li_6, li_7, li_8, li_9, li_10, li_12, li_14, li_15, li_16, li_18, li_19, li_20, li_22, li_23, li_24, li_26, li_29, li_30, li_31, li_32, li_36, li_38, li_48, li_50, li_57, li_58, li_59, li_60, li_63, li_97, li_99, li_120, li_122, li_144, li_168, li_194, li_240, li_255, li_284, li_299, li_603, li_999, li_1200, li_1440, li_4095, li_4096, li_6030, li_16384, li_20160, zl0, zl1, zl2, zl3, zl4, ze01, ze02, ze03, ze04, ze10, ze12, ze13, ze14, ze20, ze21, ze23, ze24, ze30, ze31, ze32, ze34, ze40, ze41, ze42, ze43, zt0, zt1, zt2, zt3, zt4, zq0, zq1, zq2, zq3, zq4, it_t, it_f, Bool.true_eq_false, Bool.false_eq_true, na5, na4, na1441, na2, na10, sx_IOIA, sx_IOIS, sx_IONS, sx_IAIO, sx_IAIS, sx_IANS, sx_ISIO, sx_ISIA, sx_ISNS, sx_NSIO, sx_NSIA, sx_NSIS, c_prd hS, c_cX_gi hS, en, g4, c_cR_gS hS, e1, c_cX_pi S1]
  have L1 : LW Q h h1 := LW.kx K1
  have F2 : Fx (fun o k => o = 1 ∧ k = 1) h1 (h_si h1 1 1 (nI 0)) := Fx.si ⟨rfl, rfl⟩
  have S2 : Sh (h_si h1 1 1 (nI 0)) := S1.si _ _ _
  have t2 : h_iv (h_si h1 1 1 (nI 0)) 1 1 = nI 0 := si_at
  generalize h_si h1 1 1 (nI 0) = h2 at *
  have L2 : LW Q h h2 := L1.trans (LW.fx F2 (fun o k r => by omega)) K1.1 K1.2.1
  have n2 : h_nx h2 = h_nx h := F2.1.trans K1.1
  have m2 : h_sl h2 = h_sl h := F2.2.1.trans K1.2.1
  have rv2 : ∀ o k, ¬ (o = 3 ∧ k = 2) → h_rv h2 o k = h_rv h o k := fun o k r => by rw [F2.2.2.2.2.1]; exact K1.2.2.2.2.2.1 o k r
  cases et : sText tx n with
  | inl e =>
    rw [et] at hh
    obtain ⟨rfl, c9, c10⟩ := hh
    rw [if_pos rfl]
    refine ok_ret ⟨S2.exc, L2.trans LW.exc n2 m2, t2, rfl, ?_, ?_, ?_, ?_, ?_, fun o k q1 q2 => ?_⟩
    · exact (F2.iv (by omega)).trans c9
    · exact (F2.iv (by omega)).trans c10
    · exact (rv2 _ _ (by omega)).trans r3
    · exact (rv2 _ _ (by omega)).trans r4
    · exact rv2 _ _ (by omega)
    · exact (F2.iv (by omega)).trans (K1.2.2.2.2.1 o k (by omega))
  | inr M =>
    rw [et] at hh
    obtain ⟨rfl, c9, c10, p1, w⟩ := hh
    rw [if_neg (by decide)]
    have g3 : gr h2 11 1 3 = some P := gr_ok9 (c_cX S2) ((rv2 _ _ (by omega)).trans r3) (pl_ne0 P hP)
    have g4 : gr h2 11 1 4 = some Q := gr_ok9 (c_cX S2) ((rv2 _ _ (by omega)).trans r4) (pl_ne0 Q hQ)
    have S3 : Sh (h_sr h2 1 3 Q) := S2.sr _ _ _ (by decide +kernel)
    have S4 : Sh (h_sr (h_sr h2 1 3 Q) 1 4 P) := S3.sr _ _ _ (by decide +kernel)
    have w3 : pr h2 11 1 3 Q = some (h_sr h2 1 3 Q) := pr_ok (c_cX S2) (pl_ne0 Q hQ)
    have w4 : pr (h_sr h2 1 3 Q) 11 1 4 P = some (h_sr (h_sr h2 1 3 Q) 1 4 P) := pr_ok (c_cX S3) (pl_ne0 P hP)
    have x3 : h_rv (h_sr (h_sr h2 1 3 Q) 1 4 P) 1 3 = Q := Eq.trans (show up2 (h_rv (h_sr h2 1 3 Q)) 1 4 P 1 3 = h_rv (h_sr h2 1 3 Q) 1 3 from u2n (by omega)) sr_at
    have x4 : h_rv (h_sr (h_sr h2 1 3 Q) 1 4 P) 1 4 = P := sr_at
    have L4 : LW Q h (h_sr (h_sr h2 1 3 Q) 1 4 P) := L2.trans ⟨Nat.le_refl _, Nat.le_succ _, Nat.le_add_right _ _, rfl, rfl, fun _ _ _ => rfl, fun o k r => (u2n (by omega)).trans (u2n (by omega)), fun _ _ _ => rfl⟩ n2 m2
    have n4 : h_nx (h_sr (h_sr h2 1 3 Q) 1 4 P) = h_nx h := n2
    have m4 : h_sl (h_sr (h_sr h2 1 3 Q) 1 4 P) = h_sl h := m2
    have iv4 : h_iv (h_sr (h_sr h2 1 3 Q) 1 4 P) = h_iv h2 := rfl
    have lv4 : h_lv (h_sr (h_sr h2 1 3 Q) 1 4 P) = h_lv h2 := rfl
    have g34 : gr (h_sr (h_sr h2 1 3 Q) 1 4 P) 11 1 3 = some Q := gr_ok9 (c_cX S4) x3 (pl_ne0 Q hQ)
    simp (maxSteps := 3000000) (disch := first | assumption | omega) only [bO_v, bR_v, bX_l, bX_r, bC_l, bC_r, aLet_v, nI_add, pk_mul, dvI_n, rmI_n, iMax_n, iMin_n, zO_0, zO_1, li_0, li_1, li_2, li_3, li_4, li_5, li_6, li_7, li_8, li_9, li_10, li_12, li_14, li_15, li_16, li_18, li_19, li_20, li_22, li_23, li_24, li_26, li_29, li_30, li_31, li_32, li_36, li_38, li_48, li_50, li_57, li_58, li_59, li_60, li_63, li_97, li_99, li_120, li_122, li_144, li_168, li_194, li_240, li_255, li_284, li_299, li_603, li_999, li_1200, li_1440, li_4095, li_4096, li_6030, li_16384, li_20160, zl0, zl1, zl2, zl3, zl4, ze01, ze02, ze03, ze04, ze10, ze12, ze13, ze14, ze20, ze21, ze23, ze24, ze30, ze31, ze32, ze34, ze40, ze41, ze42, ze43, zt0, zt1, zt2, zt3, zt4, zq0, zq1, zq2, zq3, zq4, it_t, it_f, Bool.true_eq_false, Bool.false_eq_true, na5, na4, na1441, na2, na10, sx_IOIA, sx_IOIS, sx_IONS, sx_IAIO, sx_IAIS, sx_IANS, sx_ISIO, sx_ISIA, sx_ISNS, sx_NSIO, sx_NSIA, sx_NSIS, g3, g4, w3, w4, c_pst S4, g34, s_cS_gS S4 (a := 134) (by decide)]
    generalize h_sr (h_sr h2 1 3 Q) 1 4 P = h4 at *
    have p4 : PQ tx n Q M h4 := by
      obtain ⟨y1, y2, y3, y4, y5⟩ := p1
      have hD := w.1
      have dG := hD.nG
      have iv : ∀ o k, Q ≤ o → o < Q + 65 → h_iv h4 o k = h_iv h1 o k := fun o k q1 q2 => by rw [iv4]; exact F2.iv (by omega)
      refine ⟨y1.keep (fun o q1 q2 => funext fun k => iv o k q1 q2) hD, fun so hso i hi => ⟨(y2 so hso i hi).1, ?_⟩, by rw [iv _ _ (by omega) (by omega)]; exact y3, fun k hk => by rw [iv _ _ (by omega) (by omega)]; exact y4 k hk, fun g hg j hj => by rw [iv _ _ (by omega) (by omega)]; exact y5 g hg j hj⟩
      rw [lv4, F2.2.2.2.2.2.1]
      exact (y2 so hso i hi).2
    have hX4 : ∃ X, h_iv h4 (134 + 11) 2 = nI X ∧ X < 65536 := by
      obtain ⟨X, x1, x2⟩ := hX
      refine ⟨X, ?_, x2⟩
      rw [iv4]
      exact (F2.iv (by omega)).trans ((K1.2.2.2.2.1 _ _ (by omega)).trans x1)
    obtain ⟨_, h5, e5, S5, C5, st5⟩ := k_begin S4 (a := 134) (by decide) hQ w p4 hX4
    obtain ⟨_, h6, e6, F6, t178, t181⟩ := k_hclear S5
    have S6 := F6.sh S5
    have x36 : h_rv h6 1 3 = Q := by rw [F6.2.2.2.2.1]; exact (C5.2.2.2.2.2.2 _ _ (by omega)).trans x3
    have x46 : h_rv h6 1 4 = P := by rw [F6.2.2.2.2.1]; exact (C5.2.2.2.2.2.2 _ _ (by omega)).trans x4
    have g36 : gr h6 11 1 3 = some Q := gr_ok9 (c_cX S6) x36 (pl_ne0 Q hQ)
    have iv6 : ∀ o k, ¬ (134 ≤ o ∧ o < 152) → o ≠ 180 → o ≠ 183 → h_iv h6 o k = h_iv h4 o k := fun o k q1 q2 q3 => by rw [F6.iv (by omega), C5.2.2.2.2.2.1 o (by omega)]
    have lv6 : h_lv h6 = h_lv h4 := F6.2.2.2.2.2.1.trans C5.2.2.2.2.1
    have p6 : PQ tx n Q M h6 := by
      obtain ⟨y1, y2, y3, y4, y5⟩ := p4
      have hD := w.1
      have dG := hD.nG
      refine ⟨y1.keep (fun o q1 q2 => funext fun k => iv6 o k (by omega) (by omega) (by omega)) hD, fun so hso i hi => ⟨(y2 so hso i hi).1, ?_⟩, by rw [iv6 _ _ (by omega) (by omega) (by omega)]; exact y3, fun k hk => by rw [iv6 _ _ (by omega) (by omega) (by omega)]; exact y4 k hk, fun g hg j hj => by rw [iv6 _ _ (by omega) (by omega) (by omega)]; exact y5 g hg j hj⟩
      rw [lv6]
      exact (y2 so hso i hi).2
    simp (maxSteps := 3000000) (disch := first | assumption | omega) only [e5, bO_v, bR_v, bX_l, bX_r, bC_l, bC_r, aLet_v, nI_add, pk_mul, dvI_n, rmI_n, iMax_n, iMin_n, zO_0, zO_1, li_0, li_1, li_2, li_3, li_4, li_5, li_6, li_7, li_8, li_9, li_10, li_12, li_14, li_15, li_16, li_18, li_19, li_20, li_22, li_23, li_24, li_26, li_29, li_30, li_31, li_32, li_36, li_38, li_48, li_50, li_57, li_58, li_59, li_60, li_63, li_97, li_99, li_120, li_122, li_144, li_168, li_194, li_240, li_255, li_284, li_299, li_603, li_999, li_1200, li_1440, li_4095, li_4096, li_6030, li_16384, li_20160, zl0, zl1, zl2, zl3, zl4, ze01, ze02, ze03, ze04, ze10, ze12, ze13, ze14, ze20, ze21, ze23, ze24, ze30, ze31, ze32, ze34, ze40, ze41, ze42, ze43, zt0, zt1, zt2, zt3, zt4, zq0, zq1, zq2, zq3, zq4, it_t, it_f, Bool.true_eq_false, Bool.false_eq_true, na5, na4, na1441, na2, na10, sx_IOIA, sx_IOIS, sx_IONS, sx_IAIO, sx_IAIS, sx_IANS, sx_ISIO, sx_ISIA, sx_ISNS, sx_NSIO, sx_NSIA, sx_NSIS, c_phi S5, c_cH_gS S5, e6, g36, p_cP_gi S6 hQ, p6.1.nP]
    have e9 : ∀ k, h_iv h6 3 k = h_iv h1 3 k := fun k => by rw [iv6 _ _ (by omega) (by omega) (by omega), iv4]; exact F2.iv (by omega)
    refine ok_ret ⟨S6, (L4.trans (LW.cq C5) n4 m4).trans (LW.fx F6 (fun o k r => by omega)) (C5.1.trans n4) (C5.2.1.trans m4), ?_, rfl, F6.1.trans (C5.1.trans n4), F6.2.1.trans (C5.2.1.trans m4), x36, x46, p6, w, ?_, t178, t181, by rw [e9]; exact c9, by rw [e9]; exact c10⟩
    · rw [iv6 _ _ (by omega) (by omega) (by omega), iv4]; exact t2
    · exact st5.keep (fun o q1 q2 => funext fun k => F6.iv (by omega)) (by rw [F6.2.2.2.2.1])
end
