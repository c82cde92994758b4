/-! the class's reader: an engine, its posts -/
section
variable {h h0 : aH} {tx : Nat → Nat} {n Q s : Nat} {M : Nat → Nat → Nat}
theorem any_skill (c : isWd tx n s 1132 = true) : sSkill tx n s = 0 := by
  have e : cd tx n s = 1132 := of_decide_eq_true (Bool.and_eq_true_iff.mp c).2
  have f : ∀ w, w ≠ 1132 → isWd tx n s w = false := fun w hw => by
    unfold isWd
    rw [e, decide_eq_false (fun q => hw q.symm), Bool.and_false]
  unfold sSkill
  rw [f _ (by decide), f _ (by decide), f _ (by decide), f _ (by decide)]; rfl
theorem k_engine (X : TX tx n h0) (hQ : Q ∈ plL) (C : CS tx n Q h0 h s) (p : PQ tx n Q M h) (w : WM M) (hs : s < n) : CP Q h0 (m_X9_readsEngine 3 h) (sEngine tx n M s) (fun r h1 => CS tx n Q h0 h1 r.2 ∧ PQ tx n Q r.1 h1) := by
  have q := pl_in Q hQ
  have hD := w.1
  have d0 := hD.nP
  have d1 := hD.nG
  have d2 := hD.nE
  have d3 := hD.nK
  have S0 := C.1
  simp (maxSteps := 3000000) (disch := first | assumption | omega) only [m_X9_readsEngine, bO_v, bR_v, bX_l, bX_r, bC_l, bC_r, aLet_v, nI_add, pk_mul, dvI_n, rmI_n, iMax_n, iMin_n, zO_0, zO_1, li_0, li_1, li_2, li_3, li_4, li_5, li_6, li_7, li_8, li_9, li_10, li_12, li_14, li_15, li_16, li_18, li_19, li_20, li_22, li_23, li_24, li_26, li_29, li_30, li_31, li_32, li_36, li_38, li_48, li_50, li_57, li_58, li_59, li_60, li_63, li_97, li_99, li_120, li_122, li_144, li_168, li_194, li_240, li_255, li_284, li_299, li_603, li_999, li_1200, li_1440, li_4095, li_4096, li_6030, li_16384, li_20160, zl0, zl1, zl2, zl3, zl4, ze01, ze02, ze03, ze04, ze10, ze12, ze13, ze14, ze20, ze21, ze23, ze24, ze30, ze31, ze32, ze34, ze40, ze41, ze42, ze43, zt0, zt1, zt2, zt3, zt4, zq0, zq1, zq2, zq3, zq4, it_t, it_f, Bool.true_eq_false, Bool.false_eq_true, na5, na4, na1441, na2, na10, sx_IOIA, sx_IOIS, sx_IONS, sx_IAIO, sx_IAIS, sx_IANS, sx_ISIO, sx_ISIA, sx_ISNS, sx_NSIO, sx_NSIA, sx_NSIS, C.g2 hQ, p_cP_gi S0 hQ, p.1.nE, nI_ltI, c_cR_gS S0]
  unfold sEngine
  by_cases c12 : 5 ≤ M 412 10
  · rw [if_neg (by omega), if_pos c12]
    obtain ⟨h1, e1, q1, -⟩ := k_fails C (c := 5)
    simp (maxSteps := 3000000) (disch := first | assumption | omega) only [e1, bO_v, bR_v, bX_l, bX_r, bC_l, bC_r, aLet_v, nI_add, pk_mul, dvI_n, rmI_n, iMax_n, iMin_n, zO_0, zO_1, li_0, li_1, li_2, li_3, li_4, li_5, li_6, li_7, li_8, li_9, li_10, li_12, li_14, li_15, li_16, li_18, li_19, li_20, li_22, li_23, li_24, li_26, li_29, li_30, li_31, li_32, li_36, li_38, li_48, li_50, li_57, li_58, li_59, li_60, li_63, li_97, li_99, li_120, li_122, li_144, li_168, li_194, li_240, li_255, li_284, li_299, li_603, li_999, li_1200, li_1440, li_4095, li_4096, li_6030, li_16384, li_20160, zl0, zl1, zl2, zl3, zl4, ze01, ze02, ze03, ze04, ze10, ze12, ze13, ze14, ze20, ze21, ze23, ze24, ze30, ze31, ze32, ze34, ze40, ze41, ze42, ze43, zt0, zt1, zt2, zt3, zt4, zq0, zq1, zq2, zq3, zq4, it_t, it_f, Bool.true_eq_false, Bool.false_eq_true, na5, na4, na1441, na2, na10, sx_IOIA, sx_IOIS, sx_IONS, sx_IAIO, sx_IAIS, sx_IANS, sx_ISIO, sx_ISIA, sx_ISNS, sx_NSIO, sx_NSIA, sx_NSIS]
    exact cp_inl rfl q1
  · rw [if_pos (by omega), if_neg c12]
    obtain ⟨_, h1, e1, C1, R1, -⟩ := k_takeC X hQ C hs
    have S1 := C1.1
    have p1 := p.rf R1 hD hQ
    simp (maxSteps := 3000000) (disch := first | assumption | omega) only [e1, bO_v, bR_v, bX_l, bX_r, bC_l, bC_r, aLet_v, nI_add, pk_mul, dvI_n, rmI_n, iMax_n, iMin_n, zO_0, zO_1, li_0, li_1, li_2, li_3, li_4, li_5, li_6, li_7, li_8, li_9, li_10, li_12, li_14, li_15, li_16, li_18, li_19, li_20, li_22, li_23, li_24, li_26, li_29, li_30, li_31, li_32, li_36, li_38, li_48, li_50, li_57, li_58, li_59, li_60, li_63, li_97, li_99, li_120, li_122, li_144, li_168, li_194, li_240, li_255, li_284, li_299, li_603, li_999, li_1200, li_1440, li_4095, li_4096, li_6030, li_16384, li_20160, zl0, zl1, zl2, zl3, zl4, ze01, ze02, ze03, ze04, ze10, ze12, ze13, ze14, ze20, ze21, ze23, ze24, ze30, ze31, ze32, ze34, ze40, ze41, ze42, ze43, zt0, zt1, zt2, zt3, zt4, zq0, zq1, zq2, zq3, zq4, it_t, it_f, Bool.true_eq_false, Bool.false_eq_true, na5, na4, na1441, na2, na10, sx_IOIA, sx_IOIS, sx_IONS, sx_IAIO, sx_IAIS, sx_IANS, sx_ISIO, sx_ISIA, sx_ISNS, sx_NSIO, sx_NSIA, sx_NSIS, C1.g2 hQ, p_pes S1 hQ, p_cP_gi S1 hQ, p1.1.nE, p_ee_al S1 hQ, c_cR_gS S1]
    refine sb_cp (k_newName X hQ C1 p1 hD (so := 2) (by omega)) (fun s2 h2 e2 hh => ?_)
    obtain ⟨C2, R2, g8⟩ := hh
    obtain ⟨nd, -⟩ := sNew_inr e2
    have S2 := C2.1
    have p2 := p1.rf R2 hD hQ
    have C3 := C2.sL (B := Q + 32 + 3 * M 412 10) (y := lN (nm32 tx n (adv tx n s))) (by omega)
    simp (maxSteps := 3000000) (disch := first | assumption | omega) only [c_cR_gL S2, g8, p_ee_pL S2 hQ, bO_v, bR_v, bX_l, bX_r, bC_l, bC_r, aLet_v, nI_add, pk_mul, dvI_n, rmI_n, iMax_n, iMin_n, zO_0, zO_1, li_0, li_1, li_2, li_3, li_4, li_5, li_6, li_7, li_8, li_9, li_10, li_12, li_14, li_15, li_16, li_18, li_19, li_20, li_22, li_23, li_24, li_26, li_29, li_30, li_31, li_32, li_36, li_38, li_48, li_50, li_57, li_58, li_59, li_60, li_63, li_97, li_99, li_120, li_122, li_144, li_168, li_194, li_240, li_255, li_284, li_299, li_603, li_999, li_1200, li_1440, li_4095, li_4096, li_6030, li_16384, li_20160, zl0, zl1, zl2, zl3, zl4, ze01, ze02, ze03, ze04, ze10, ze12, ze13, ze14, ze20, ze21, ze23, ze24, ze30, ze31, ze32, ze34, ze40, ze41, ze42, ze43, zt0, zt1, zt2, zt3, zt4, zq0, zq1, zq2, zq3, zq4, it_t, it_f, Bool.true_eq_false, Bool.false_eq_true, na5, na4, na1441, na2, na10, sx_IOIA, sx_IOIS, sx_IONS, sx_IAIO, sx_IAIS, sx_IANS, sx_ISIO, sx_ISIA, sx_ISNS, sx_NSIO, sx_NSIA, sx_NSIS, c_cR_gS C3.1]
    refine sb_cp (k_number X hQ C3 (by omega) (by omega)) (fun v h4 e4 hh => ?_)
    obtain ⟨C4, R4, g7, -⟩ := hh
    have S4 := C4.1
    have S5 : Sh (h_si h4 (Q + 32 + 3 * M 412 10) 1 (nI v.1)) := S4.si _ _ _
    have S6 : Sh (h_si (h_si h4 (Q + 32 + 3 * M 412 10) 1 (nI v.1)) (Q + 32 + 3 * M 412 10) 2 (nI 0)) := S5.si _ _ _
    simp (maxSteps := 3000000) (disch := first | assumption | omega) only [c_cR_gi S4, g7, p_ee_pi S4 hQ, p_ee_pi S5 hQ, p_eed_p S6 hQ, bO_v, bR_v, bX_l, bX_r, bC_l, bC_r, aLet_v, nI_add, pk_mul, dvI_n, rmI_n, iMax_n, iMin_n, zO_0, zO_1, li_0, li_1, li_2, li_3, li_4, li_5, li_6, li_7, li_8, li_9, li_10, li_12, li_14, li_15, li_16, li_18, li_19, li_20, li_22, li_23, li_24, li_26, li_29, li_30, li_31, li_32, li_36, li_38, li_48, li_50, li_57, li_58, li_59, li_60, li_63, li_97, li_99, li_120, li_122, li_144, li_168, li_194, li_240, li_255, li_284, li_299, li_603, li_999, li_1200, li_1440, li_4095, li_4096, li_6030, li_16384, li_20160, zl0, zl1, zl2, zl3, zl4, ze01, ze02, ze03, ze04, ze10, ze12, ze13, ze14, ze20, ze21, ze23, ze24, ze30, ze31, ze32, ze34, ze40, ze41, ze42, ze43, zt0, zt1, zt2, zt3, zt4, zq0, zq1, zq2, zq3, zq4, it_t, it_f, Bool.true_eq_false, Bool.false_eq_true, na5, na4, na1441, na2, na10, sx_IOIA, sx_IOIS, sx_IONS, sx_IAIO, sx_IAIS, sx_IANS, sx_ISIO, sx_ISIA, sx_ISNS, sx_NSIO, sx_NSIA, sx_NSIS]
    have F6 : Fx (fun o _ => Q + 32 + 3 * M 412 10 ≤ o ∧ o ≤ Q + 34 + 3 * M 412 10) h4 (h_si (h_si h4 (Q + 32 + 3 * M 412 10) 1 (nI v.1)) (Q + 32 + 3 * M 412 10) 2 (nI 0)) := (Fx.si (A := fun o _ => Q + 32 + 3 * M 412 10 ≤ o ∧ o ≤ Q + 34 + 3 * M 412 10) (by omega)).trans (Fx.si (A := fun o _ => Q + 32 + 3 * M 412 10 ≤ o ∧ o ≤ Q + 34 + 3 * M 412 10) (by omega))
    obtain ⟨_, h8, e8, F8, f8⟩ := k_fill (v := nI 0) (p_eed S6 hQ (i := M 412 10) (by omega)).1 (p_eed S6 hQ (i := M 412 10) (by omega)).2 (by omega)
    rw [e8, bR_v]
    have b1 : h_iv h8 (Q + 32 + 3 * M 412 10) 1 = nI v.1 := by rw [F8.iv (by omega), si_ne (by omega), si_at]
    have b2 : h_iv h8 (Q + 32 + 3 * M 412 10) 2 = nI 0 := by rw [F8.iv (by omega), si_at]
    have F8' : Fx (fun o _ => Q + 32 + 3 * M 412 10 ≤ o ∧ o ≤ Q + 34 + 3 * M 412 10) h4 h8 := F6.trans (F8.fx.mono (fun o k r => by omega))
    have W6 : QW (fun o _ => Q + 32 + 3 * M 412 10 ≤ o ∧ o ≤ Q + 34 + 3 * M 412 10) (Q + 32 + 3 * M 412 10) h2 h8 := (QW.sL.trans R4.qw).trans (QW.fx F8')
    have l6 : h_lv h8 (Q + 32 + 3 * M 412 10) 0 = lN (nm32 tx n (adv tx n s)) := by
      rw [F8'.2.2.2.2.2.1, R4.2.2.2.2.2.2 _ _ (by omega)]
      exact sL_at
    have C8 := C4.qx hQ F8' (fun o k a => by omega)
    generalize hK : (fun (r : (Nat → Nat → Nat) × Nat) (h1 : aH) => CS tx n Q h0 h1 r.2 ∧ PQ tx n Q r.1 h1) = K
    generalize hM0 : put (put M 419 (18 + M 412 10) (adv tx n s)) 425 (M 412 10) v.1 = M0
    have e0 : ∀ o k, ¬ (o = 419 ∨ (o = 425 ∧ k = M 412 10)) → M0 o k = M o k := fun o k r => by rw [← hM0, put_n (by omega), put_n (by omega)]
    have vs := C4.2.2.2.2.2.1
    refine aJ_gen (R := fun o => CP Q h0 o _ K) (fun k168 hk168 => ?_)
    refine aJ_gen (R := fun o => CP Q h0 o _ K) (fun k147 hk147 => ?_)
    refine aJ_gen (R := fun o => CP Q h0 o _ K) (fun k132 hk132 => ?_)
    refine aL1_run (R := fun o => CP Q h0 o (sb (sPosts tx n (M 412 10) (n + 2) M0 0 v.2) fun r => .inr (put (put r.1 426 (M 412 10) r.2.1) 412 10 (M 412 10 + 1), r.2.2)) K) (fun m s1 h9 => ∃ f c s' M1, m = f ∧ s1 = nI c ∧ c ≤ 6 ∧ n + 1 < s' + f ∧ sPosts tx n (M 412 10) (n + 2) M0 0 v.2 = sPosts tx n (M 412 10) f M1 c s' ∧ CS tx n Q h0 h9 s' ∧ QW (fun o _ => Q + 32 + 3 * M 412 10 ≤ o ∧ o ≤ Q + 34 + 3 * M 412 10) (Q + 32 + 3 * M 412 10) h2 h9 ∧ h_iv h9 (Q + 32 + 3 * M 412 10) 1 = nI v.1 ∧ h_iv h9 (Q + 32 + 3 * M 412 10) 2 = nI c ∧ h_lv h9 (Q + 32 + 3 * M 412 10) 0 = lN (nm32 tx n (adv tx n s)) ∧ (∀ j, j < c → h_iv h9 (Q + 33 + 3 * M 412 10) j = nI (pbit (M1 427 (6 * M 412 10 + j)))) ∧ (∀ k, k < 32 → h_iv h9 (Q + 34 + 3 * M 412 10) k = nI (dmd M1 (M 412 10) k c)) ∧ ∀ o k, ¬ (o = 427 ∧ 6 * M 412 10 ≤ k) → M1 o k = M0 o k) ⟨n + 2, 0, v.2, M0, rfl, rfl, Nat.zero_le _, by omega, rfl, C8, W6, b1, b2, l6, fun j r => absurd r (Nat.not_lt_zero j), fun k hk => f8 k hk, fun _ _ _ => rfl⟩ (by have := X.1; omega) ?_
    rintro rec m s1 h9 ⟨f, c, s', M1, rfl, rfl, hc, hf, es, C9, W9, a1, a2, a4, a5, a7, a6⟩ ih
    have S9 := C9.1
    have sn := C9.2.2.2.2.2.1
    have t6 := tok_lt6 (tx := tx) (n := n) (s := s')
    cases m with
    | zero => omega
    | succ f =>
      rw [es, sPosts]
      simp (maxSteps := 3000000) (disch := first | assumption | omega) only [m_X9_readsEngine_L90, bO_v, bR_v, bX_l, bX_r, bC_l, bC_r, aLet_v, nI_add, pk_mul, dvI_n, rmI_n, iMax_n, iMin_n, zO_0, zO_1, li_0, li_1, li_2, li_3, li_4, li_5, li_6, li_7, li_8, li_9, li_10, li_12, li_14, li_15, li_16, li_18, li_19, li_20, li_22, li_23, li_24, li_26, li_29, li_30, li_31, li_32, li_36, li_38, li_48, li_50, li_57, li_58, li_59, li_60, li_63, li_97, li_99, li_120, li_122, li_144, li_168, li_194, li_240, li_255, li_284, li_299, li_603, li_999, li_1200, li_1440, li_4095, li_4096, li_6030, li_16384, li_20160, zl0, zl1, zl2, zl3, zl4, ze01, ze02, ze03, ze04, ze10, ze12, ze13, ze14, ze20, ze21, ze23, ze24, ze30, ze31, ze32, ze34, ze40, ze41, ze42, ze43, zt0, zt1, zt2, zt3, zt4, zq0, zq1, zq2, zq3, zq4, it_t, it_f, Bool.true_eq_false, Bool.false_eq_true, na5, na4, na1441, na2, na10, sx_IOIA, sx_IOIS, sx_IONS, sx_IAIO, sx_IAIS, sx_IANS, sx_ISIO, sx_ISIA, sx_ISNS, sx_NSIO, sx_NSIA, sx_NSIS, nI_ltI, nI_eq, c_cR_gi S9, C9.2.2.2.2.1.1]
      rw [if_pos (show c < 1200 by omega)]
      refine aJ_gen (R := fun o => CP Q h0 o _ K) (fun k109 hk109 => ?_)
      by_cases ct : c ≠ 0 ∧ tok tx n s' ≠ 1
      · rw [if_pos ct, if_neg ct.1, if_neg ct.2, hk168]
        have C9g := C9.g2 hQ
        have c5 : h_iv h9 Q 7 = nI (M 412 10) := by rw [W9.2.1 _ _ (by omega) (by omega)]; exact p2.1.nE
        simp (maxSteps := 3000000) (disch := first | assumption | omega) only [C9g, p_cP_gi S9 hQ, c5, p_cP_pi S9 hQ, bO_v, bR_v, bX_l, bX_r, bC_l, bC_r, aLet_v, nI_add, pk_mul, dvI_n, rmI_n, iMax_n, iMin_n, zO_0, zO_1, li_0, li_1, li_2, li_3, li_4, li_5, li_6, li_7, li_8, li_9, li_10, li_12, li_14, li_15, li_16, li_18, li_19, li_20, li_22, li_23, li_24, li_26, li_29, li_30, li_31, li_32, li_36, li_38, li_48, li_50, li_57, li_58, li_59, li_60, li_63, li_97, li_99, li_120, li_122, li_144, li_168, li_194, li_240, li_255, li_284, li_299, li_603, li_999, li_1200, li_1440, li_4095, li_4096, li_6030, li_16384, li_20160, zl0, zl1, zl2, zl3, zl4, ze01, ze02, ze03, ze04, ze10, ze12, ze13, ze14, ze20, ze21, ze23, ze24, ze30, ze31, ze32, ze34, ze40, ze41, ze42, ze43, zt0, zt1, zt2, zt3, zt4, zq0, zq1, zq2, zq3, zq4, it_t, it_f, Bool.true_eq_false, Bool.false_eq_true, na5, na4, na1441, na2, na10, sx_IOIA, sx_IOIS, sx_IONS, sx_IAIO, sx_IAIS, sx_IANS, sx_ISIO, sx_ISIA, sx_ISNS, sx_NSIO, sx_NSIA, sx_NSIS]
        have F10 : Fx (fun o k => o = Q ∧ k = 7) h9 (h_si h9 Q 7 (nI (M 412 10 + 1))) := Fx.si ⟨rfl, rfl⟩
        have C10 := C9.qx hQ F10 (fun o k r => by omega)
        have g5 : h_iv (h_si h9 Q 7 (nI (M 412 10 + 1))) Q 7 = nI (M 412 10 + 1) := si_at
        generalize h_si h9 Q 7 (nI (M 412 10 + 1)) = h10 at F10 C10 g5
        obtain ⟨M', hM⟩ : ∃ M', M' = put (put M1 426 (M 412 10) c) 412 10 (M 412 10 + 1) := ⟨_, rfl⟩
        have e : ∀ o k, ¬ ((o = 412 ∧ k = 10) ∨ o = 419 ∨ ((o = 425 ∨ o = 426) ∧ k = M 412 10) ∨ (o = 427 ∧ 6 * M 412 10 ≤ k)) → M' o k = M o k := fun o k r => by
          rw [hM, put_n (by omega), put_n (by omega), a6 o k (by omega), e0 o k (by omega)]
        have m9 : M' 412 10 = M 412 10 + 1 := by rw [hM]; exact put_e
        have m426 : M' 426 (M 412 10) = c := by rw [hM, put_n (by omega), put_e]
        have m427 : ∀ j, M' 427 j = M1 427 j := fun j => by rw [hM, put_n (by omega), put_n (by omega)]
        have m425 : M' 425 (M 412 10) = v.1 := by rw [hM, put_n (by omega), put_n (by omega), a6 _ _ (by omega), ← hM0, put_e]
        have m5 : ∀ k, M' 419 k = if k = nmB 2 + nmN M 2 then adv tx n s else M 419 k := fun k => by
          show M' 419 k = if k = 18 + M 412 10 then adv tx n s else M 419 k
          rw [hM, put_n (by omega), put_n (by omega), a6 _ _ (by omega), ← hM0, put_n (by omega)]
          by_cases r : k = 18 + M 412 10
          · rw [if_pos r, r, put_e]
          · rw [if_neg r, put_n (by omega)]
        have iv : ∀ o k, o ≠ 3 → ¬ (Q + 32 + 3 * M 412 10 ≤ o ∧ o ≤ Q + 34 + 3 * M 412 10) → ¬ (o = Q ∧ k = 7) → h_iv h10 o k = h_iv h2 o k := fun o k q1 q2 q4 => by rw [F10.iv q4, W9.2.1 o k q1 q2]
        have lv : h_lv h10 = h_lv h9 := F10.2.2.2.2.2.1
        have pq : PQ tx n Q M' h10 := by
          obtain ⟨y1, y2, y3, y4, y5⟩ := p2
          refine ⟨plr_addE hD y1 (by omega) (fun o k q1 q2 q3 => iv o k (by omega) (by omega) (by omega)) e m9 g5 ?_ ?_ (fun j hj => ?_) (fun k hk => ?_), nq_add (M := M) (sN := 2) (s1 := adv tx n s) ⟨y1, y2, y3, y4, y5⟩ hD (by omega) (show M 412 10 < 5 by omega) m9 (fun so q1 q2 => ?_) m5 nd ?_ (fun o q1 q2 q3 => ?_), ?_, fun k hk => ?_, fun g hg j hj => ?_⟩
          · rw [F10.iv (by omega), a1, m425]
          · rw [F10.iv (by omega), a2, m426]
          · rw [m426] at hj
            rw [F10.iv (by omega), m427]; exact a5 j hj
          · rw [F10.iv (by omega), m426, a7 k hk]
            congr 1
            exact fb_ct_cong (fun j hj => by rw [m427])
          · rcases (show so = 0 ∨ so = 1 ∨ so = 3 by omega) with r | r | r <;> subst r
            · exact e 412 8 (by omega)
            · exact e 412 9 (by omega)
            · exact e 412 11 (by omega)
          · show h_lv h10 (Q + 32 + 3 * M 412 10) 0 = _
            rw [lv]; exact a4
          · have q1' : o ≠ Q + 32 + 3 * M 412 10 := q1
            rw [lv, W9.2.2 o 0 (by omega) (by omega)]
          · rw [iv _ _ (by omega) (by omega) (by omega), e _ _ (by omega)]; exact y3
          · rw [iv _ _ (by omega) (by omega) (by omega), e 441 k (by omega), e 440 k (by omega)]; exact y4 k hk
          · rw [e 412 9 (by omega)] at hg
            rw [e 424 g (by omega)] at hj
            rw [iv _ _ (by omega) (by omega) (by omega), e 445 _ (by omega)]; exact y5 g hg j hj
        refine cp_inr (a := (M', s')) (by rw [hM]; rfl) ?_
        rw [← hK]
        exact ⟨C10, pq⟩
      · rw [if_neg ct]
        have wa := k_isWord X hQ C9 (i := 10) (by omega)
        rw [wc.2.2.2.2.2.2.2.2.2.2] at wa
        have ks := k_skillOf X hQ C9
        have go : CP Q h0 (k109 h9) (sb (if isWd tx n s' 1132 = false ∧ sSkill tx n s' = 0 then (.inl (1, s') : ER ⊕ ((Nat → Nat → Nat) × Nat × Nat)) else if c = 6 then .inl (5, s') else sPosts tx n (M 412 10) f (put M1 427 (6 * M 412 10 + c) (sSkill tx n s')) (c + 1) (adv tx n s')) fun r => .inr (put (put r.1 426 (M 412 10) r.2.1) 412 10 (M 412 10 + 1), r.2.2)) K := by
          rw [hk109]
          simp (maxSteps := 3000000) (disch := first | assumption | omega) only [c_cR_gS S9, wa, ks, bO_v, bR_v, bX_l, bX_r, bC_l, bC_r, aLet_v, nI_add, pk_mul, dvI_n, rmI_n, iMax_n, iMin_n, zO_0, zO_1, li_0, li_1, li_2, li_3, li_4, li_5, li_6, li_7, li_8, li_9, li_10, li_12, li_14, li_15, li_16, li_18, li_19, li_20, li_22, li_23, li_24, li_26, li_29, li_30, li_31, li_32, li_36, li_38, li_48, li_50, li_57, li_58, li_59, li_60, li_63, li_97, li_99, li_120, li_122, li_144, li_168, li_194, li_240, li_255, li_284, li_299, li_603, li_999, li_1200, li_1440, li_4095, li_4096, li_6030, li_16384, li_20160, zl0, zl1, zl2, zl3, zl4, ze01, ze02, ze03, ze04, ze10, ze12, ze13, ze14, ze20, ze21, ze23, ze24, ze30, ze31, ze32, ze34, ze40, ze41, ze42, ze43, zt0, zt1, zt2, zt3, zt4, zq0, zq1, zq2, zq3, zq4, it_t, it_f, Bool.true_eq_false, Bool.false_eq_true, na5, na4, na1441, na2, na10, sx_IOIA, sx_IOIS, sx_IONS, sx_IAIO, sx_IAIS, sx_IANS, sx_ISIO, sx_ISIA, sx_ISNS, sx_NSIO, sx_NSIA, sx_NSIS, b2i_0]
          refine aJ_gen (R := fun o => CP Q h0 o _ K) (fun k127 hk127 => ?_)
          have yes : ∀ sk, sk = pbit (sSkill tx n s') → sk < 32 → sk ≠ 0 → ¬ (isWd tx n s' 1132 = false ∧ sSkill tx n s' = 0) → CP Q h0 (k127 (nI sk) h9) (sb (if isWd tx n s' 1132 = false ∧ sSkill tx n s' = 0 then (.inl (1, s') : ER ⊕ ((Nat → Nat → Nat) × Nat × Nat)) else if c = 6 then .inl (5, s') else sPosts tx n (M 412 10) f (put M1 427 (6 * M 412 10 + c) (sSkill tx n s')) (c + 1) (adv tx n s')) fun r => .inr (put (put r.1 426 (M 412 10) r.2.1) 412 10 (M 412 10 + 1), r.2.2)) K := fun sk e1 e2 e3 e4 => by
            rw [if_neg e4, hk127]
            simp (maxSteps := 3000000) (disch := first | assumption | omega) only [bO_v, bR_v, bX_l, bX_r, bC_l, bC_r, aLet_v, nI_add, pk_mul, dvI_n, rmI_n, iMax_n, iMin_n, zO_0, zO_1, li_0, li_1, li_2, li_3, li_4, li_5, li_6, li_7, li_8, li_9, li_10, li_12, li_14, li_15, li_16, li_18, li_19, li_20, li_22, li_23, li_24, li_26, li_29, li_30, li_31, li_32, li_36, li_38, li_48, li_50, li_57, li_58, li_59, li_60, li_63, li_97, li_99, li_120, li_122, li_144, li_168, li_194, li_240, li_255, li_284, li_299, li_603, li_999, li_1200, li_1440, li_4095, li_4096, li_6030, li_16384, li_20160, zl0, zl1, zl2, zl3, zl4, ze01, ze02, ze03, ze04, ze10, ze12, ze13, ze14, ze20, ze21, ze23, ze24, ze30, ze31, ze32, ze34, ze40, ze41, ze42, ze43, zt0, zt1, zt2, zt3, zt4, zq0, zq1, zq2, zq3, zq4, it_t, it_f, Bool.true_eq_false, Bool.false_eq_true, na5, na4, na1441, na2, na10, sx_IOIA, sx_IOIS, sx_IONS, sx_IAIO, sx_IAIS, sx_IANS, sx_ISIO, sx_ISIA, sx_ISNS, sx_NSIO, sx_NSIA, sx_NSIS, nI_eq, p_ee_gi S9 hQ, a2, nI_ltI]
            rw [if_neg e3]
            have sl : s' < n := by
              cases ca : isWd tx n s' 1132
              · have : sSkill tx n s' ≠ 0 := fun q => e4 ⟨ca, q⟩
                rcases Nat.lt_or_ge s' n with r | r
                · exact r
                · have t5 := tok5 (tx := tx) |>.mpr r
                  have z : ∀ w, isWd tx n s' w = false := fun w => by
                    unfold isWd nmd
                    rw [decide_eq_false (by omega)]; rfl
                  exact absurd (by unfold sSkill; rw [z, z, z, z]; rfl) this
              · exact nmd_in (Bool.and_eq_true_iff.mp ca).1
            by_cases c6 : c = 6
            · rw [if_neg (by omega), if_pos c6, hk147]
              obtain ⟨h10, e10, q10, -⟩ := k_fails C9 (c := 5)
              simp (maxSteps := 3000000) (disch := first | assumption | omega) only [c_cR_gS S9, e10, bO_v, bR_v, bX_l, bX_r, bC_l, bC_r, aLet_v, nI_add, pk_mul, dvI_n, rmI_n, iMax_n, iMin_n, zO_0, zO_1, li_0, li_1, li_2, li_3, li_4, li_5, li_6, li_7, li_8, li_9, li_10, li_12, li_14, li_15, li_16, li_18, li_19, li_20, li_22, li_23, li_24, li_26, li_29, li_30, li_31, li_32, li_36, li_38, li_48, li_50, li_57, li_58, li_59, li_60, li_63, li_97, li_99, li_120, li_122, li_144, li_168, li_194, li_240, li_255, li_284, li_299, li_603, li_999, li_1200, li_1440, li_4095, li_4096, li_6030, li_16384, li_20160, zl0, zl1, zl2, zl3, zl4, ze01, ze02, ze03, ze04, ze10, ze12, ze13, ze14, ze20, ze21, ze23, ze24, ze30, ze31, ze32, ze34, ze40, ze41, ze42, ze43, zt0, zt1, zt2, zt3, zt4, zq0, zq1, zq2, zq3, zq4, it_t, it_f, Bool.true_eq_false, Bool.false_eq_true, na5, na4, na1441, na2, na10, sx_IOIA, sx_IOIS, sx_IONS, sx_IAIO, sx_IAIS, sx_IANS, sx_ISIO, sx_ISIA, sx_ISNS, sx_NSIO, sx_NSIA, sx_NSIS]
              exact cp_inl rfl q10
            · rw [if_pos (by omega), if_neg c6]
              obtain ⟨_, h10, e10, F10, d2', d3', d4'⟩ := k_addPost S9 hQ (e := M 412 10) (c := c) (sk := sk) (by omega) (by omega) e2 (f := fun k => dmd M1 (M 412 10) k c) (fun k hk => Nat.le_trans (fb_ct_le _ _) hc) a2 a7
              have C10 := C9.qx hQ F10 (fun o k r => by omega)
              obtain ⟨_, h11, e11, C11, R11, -⟩ := k_takeC X hQ C10 sl
              have ad := adv_gt (tx := tx) sl
              simp (maxSteps := 3000000) (disch := first | assumption | omega) only [p_ee_gS S9 hQ, e10, bO_v, bR_v, bX_l, bX_r, bC_l, bC_r, aLet_v, nI_add, pk_mul, dvI_n, rmI_n, iMax_n, iMin_n, zO_0, zO_1, li_0, li_1, li_2, li_3, li_4, li_5, li_6, li_7, li_8, li_9, li_10, li_12, li_14, li_15, li_16, li_18, li_19, li_20, li_22, li_23, li_24, li_26, li_29, li_30, li_31, li_32, li_36, li_38, li_48, li_50, li_57, li_58, li_59, li_60, li_63, li_97, li_99, li_120, li_122, li_144, li_168, li_194, li_240, li_255, li_284, li_299, li_603, li_999, li_1200, li_1440, li_4095, li_4096, li_6030, li_16384, li_20160, zl0, zl1, zl2, zl3, zl4, ze01, ze02, ze03, ze04, ze10, ze12, ze13, ze14, ze20, ze21, ze23, ze24, ze30, ze31, ze32, ze34, ze40, ze41, ze42, ze43, zt0, zt1, zt2, zt3, zt4, zq0, zq1, zq2, zq3, zq4, it_t, it_f, Bool.true_eq_false, Bool.false_eq_true, na5, na4, na1441, na2, na10, sx_IOIA, sx_IOIS, sx_IONS, sx_IAIO, sx_IAIS, sx_IANS, sx_ISIO, sx_ISIA, sx_ISNS, sx_NSIO, sx_NSIA, sx_NSIS, c_cR_gS C10.1, e11]
              have ee : sPosts tx n (M 412 10) (n + 2) M0 0 v.2 = sPosts tx n (M 412 10) f (put M1 427 (6 * M 412 10 + c) (sSkill tx n s')) (c + 1) (adv tx n s') := by
                rw [es, sPosts, if_neg ct, if_neg e4, if_neg c6]
              rw [← ee]
              have W10 : QW (fun o _ => Q + 32 + 3 * M 412 10 ≤ o ∧ o ≤ Q + 34 + 3 * M 412 10) (Q + 32 + 3 * M 412 10) h9 h10 := QW.fx (F10.mono (fun o k r => ⟨r.1, r.2.1⟩))
              refine ih f _ _ (by omega) ⟨f, c + 1, adv tx n s', _, rfl, rfl, by omega, by omega, ee, C11, (W9.trans W10).trans R11.qw, ?_, ?_, ?_, fun j hj => ?_, fun k hk => ?_, fun o k r => ?_⟩
              · rw [R11.2.2.2.2.2.1 _ _ (by omega), F10.iv (by omega)]; exact a1
              · rw [R11.2.2.2.2.2.1 _ _ (by omega)]; exact d2'
              · rw [R11.2.2.2.2.2.2 _ _ (by omega), F10.2.2.2.2.2.1]; exact a4
              · rw [R11.2.2.2.2.2.1 _ _ (by omega), d3']
                by_cases cj : j = c
                · rw [if_pos cj, cj, put_e, e1]
                · rw [if_neg cj, put_n (by omega)]; exact a5 j (by omega)
              · rw [R11.2.2.2.2.2.1 _ _ (by omega), d4' k hk]
                congr 1
                unfold dmd
                rw [fb_ct_succ, put_e, ← e1]
                have e7 : fb_ct (fun j => decide (k &&& pbit (put M1 427 (6 * M 412 10 + c) (sSkill tx n s') 427 (6 * M 412 10 + j)) ≠ 0)) c = fb_ct (fun j => decide (k &&& pbit (M1 427 (6 * M 412 10 + j)) ≠ 0)) c := fb_ct_cong (fun j hj => by rw [put_n (by omega)])
                rw [e7]
                by_cases cz : k &&& sk = 0
                · rw [if_neg (fun r => r cz), if_neg (by rw [decide_eq_false (fun r => r cz)]; decide)]
                · rw [if_pos cz, if_pos (decide_eq_true cz)]
              · rw [put_n (by omega)]; exact a6 o k r
          cases ca : isWd tx n s' 1132
          · rw [if_pos rfl]
            by_cases c0 : sSkill tx n s' = 0
            · obtain ⟨h10, e10, q10, -⟩ := k_fails C9 (c := 1)
              rw [if_pos ⟨rfl, c0⟩, hk127, c0]
              simp (maxSteps := 3000000) (disch := first | assumption | omega) only [bO_v, bR_v, bX_l, bX_r, bC_l, bC_r, aLet_v, nI_add, pk_mul, dvI_n, rmI_n, iMax_n, iMin_n, zO_0, zO_1, li_0, li_1, li_2, li_3, li_4, li_5, li_6, li_7, li_8, li_9, li_10, li_12, li_14, li_15, li_16, li_18, li_19, li_20, li_22, li_23, li_24, li_26, li_29, li_30, li_31, li_32, li_36, li_38, li_48, li_50, li_57, li_58, li_59, li_60, li_63, li_97, li_99, li_120, li_122, li_144, li_168, li_194, li_240, li_255, li_284, li_299, li_603, li_999, li_1200, li_1440, li_4095, li_4096, li_6030, li_16384, li_20160, zl0, zl1, zl2, zl3, zl4, ze01, ze02, ze03, ze04, ze10, ze12, ze13, ze14, ze20, ze21, ze23, ze24, ze30, ze31, ze32, ze34, ze40, ze41, ze42, ze43, zt0, zt1, zt2, zt3, zt4, zq0, zq1, zq2, zq3, zq4, it_t, it_f, Bool.true_eq_false, Bool.false_eq_true, na5, na4, na1441, na2, na10, sx_IOIA, sx_IOIS, sx_IONS, sx_IAIO, sx_IAIS, sx_IANS, sx_ISIO, sx_ISIA, sx_ISNS, sx_NSIO, sx_NSIA, sx_NSIS]
              rw [hk132]
              simp (maxSteps := 3000000) (disch := first | assumption | omega) only [c_cR_gS S9, e10, bO_v, bR_v, bX_l, bX_r, bC_l, bC_r, aLet_v, nI_add, pk_mul, dvI_n, rmI_n, iMax_n, iMin_n, zO_0, zO_1, li_0, li_1, li_2, li_3, li_4, li_5, li_6, li_7, li_8, li_9, li_10, li_12, li_14, li_15, li_16, li_18, li_19, li_20, li_22, li_23, li_24, li_26, li_29, li_30, li_31, li_32, li_36, li_38, li_48, li_50, li_57, li_58, li_59, li_60, li_63, li_97, li_99, li_120, li_122, li_144, li_168, li_194, li_240, li_255, li_284, li_299, li_603, li_999, li_1200, li_1440, li_4095, li_4096, li_6030, li_16384, li_20160, zl0, zl1, zl2, zl3, zl4, ze01, ze02, ze03, ze04, ze10, ze12, ze13, ze14, ze20, ze21, ze23, ze24, ze30, ze31, ze32, ze34, ze40, ze41, ze42, ze43, zt0, zt1, zt2, zt3, zt4, zq0, zq1, zq2, zq3, zq4, it_t, it_f, Bool.true_eq_false, Bool.false_eq_true, na5, na4, na1441, na2, na10, sx_IOIA, sx_IOIS, sx_IONS, sx_IAIO, sx_IAIS, sx_IANS, sx_ISIO, sx_ISIA, sx_ISNS, sx_NSIO, sx_NSIA, sx_NSIS]
              exact cp_inl rfl q10
            · have v1 := sSkill_v (tx := tx) (n := n) (s := s')
              have r := yes (sSkill tx n s') (by unfold pbit; rw [if_neg c0]) (by omega) c0 (fun q => c0 q.2)
              rw [ca] at r
              exact r
          · rw [if_neg (by decide)]
            have r := yes 16 (by rw [any_skill ca]; rfl) (by omega) (by decide) (fun q => by rw [ca] at q; cases q.1)
            rw [ca] at r
            exact r
        by_cases c0 : c = 0
        · rw [if_pos c0]; exact go
        · rw [if_neg c0]
          by_cases c1 : tok tx n s' = 1
          · rw [if_pos c1]; exact go
          · exact absurd ⟨c0, c1⟩ ct
end
