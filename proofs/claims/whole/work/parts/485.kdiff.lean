/-! the class's reader: names of different things -/
/-- how a list of different names is read -/
def DP (tx : Nat → Nat) (n Q : Nat) (h0 h : aH) (A o b : Nat) (sp : ER ⊕ ((Nat → Nat → Nat) × Nat × Nat)) : Int32 → aH → Prop := fun r h1 => match sp with
  | .inl e => r = -nI 1 ∧ CE Q h0 h1 e
  | .inr a => r = nI a.2.1 ∧ CS tx n Q h0 h1 a.2.2 ∧ QW (fun o _ => o = A) 3 h h1 ∧ ∀ j, j < a.2.1 → h_iv h1 A j = nI (a.1 o (b + j))
section
variable {h h0 : aH} {tx : Nat → Nat} {n Q s : Nat} {M : Nat → Nat → Nat}
theorem QW.mono {A A' : Nat → Nat → Prop} {B : Nat} {h1 : aH} (x : QW A B h h1) (hA : ∀ o k, A o k → A' o k) : QW A' B h h1 := ⟨x.1, fun o k q1 q2 => x.2.1 o k q1 (fun r => q2 (hA o k r)), x.2.2⟩
theorem QW.weak {A : Nat → Nat → Prop} {B : Nat} {h1 : aH} (x : QW A 3 h h1) : QW A B h h1 := ⟨x.1, x.2.1, fun o k q1 _ => x.2.2 o k q1 (fun e => q1 e.1)⟩
theorem CE.qx {e : ER} (c : CE Q h0 h e) (hQ : Q ∈ plL) {A : Nat → Nat → Prop} {h1 : aH} (x : Fx A h h1) (hA : ∀ o k, A o k → Q ≤ o ∧ o < Q + 65) : CE Q h0 h1 e := by
  have q := pl_in Q hQ
  obtain ⟨c1, c2, c3, c4⟩ := c
  have no : ∀ k, ¬ A 3 k := fun k a => by
    have := hA _ _ a
    omega
  exact ⟨x.sh c1, c2.trans (KX.fx x (fun o k a => Or.inr (hA o k a))), by rw [x.iv (no _)]; exact c3, by rw [x.iv (no _)]; exact c4⟩
theorem fst_lt {q : Nat → Bool} {c i : Nat} (hi : i < c) (h : q i = true) : fa_first q c < c := by
  have a := fa_first_le q c
  rcases Nat.lt_or_ge (fa_first q c) c with r | r
  · exact r
  · have := fa_first_no q c i (by omega)
    rw [h] at this; cases this
theorem fst_nlt {q : Nat → Bool} {c : Nat} (h : ∀ i, i < c → q i = false) : ¬ fa_first q c < c := fun r => by
  have := fa_first_yes q c r
  rw [h _ r] at this; cases this
theorem k_diff (X : TX tx n h0) (hQ : Q ∈ plL) (C : CS tx n Q h0 h s) (p : PQ tx n Q M h) (hD : PlD M) {so A o b len : Nat} {M1 : Nat → Nat → Nat} (hso : so < 4) (h6 : M 412 11 < 6) (hA : A = Q + 48 + 3 * M 412 11 ∨ A = Q + 49 + 3 * M 412 11) (hl : len ≤ 6) (hc : nmN M so ≤ len)
    (al : ∀ g, Sh g → aln g A = some (nI len)) (rd : ∀ g, Sh g → ∀ j, j < len → ali g 1 A (nI j) = some (h_iv g A j)) (wr : ∀ g, Sh g → ∀ j x, j < len → asi g A (nI j) x = some (h_si g A j x)) :
    OK (m_X9_readDifferent 3 (nI so) A h) (DP tx n Q h0 h A o b (sDiff tx n M so (nmN M so) o b (n + 2) M1 0 s)) := by
  have q := pl_in Q hQ
  have x1 := X.1
  simp (maxSteps := 3000000) (disch := first | assumption | omega) only [m_X9_readDifferent, bO_v, bR_v, bX_l, bX_r, bC_l, bC_r, aLet_v, nI_add, pk_mul, dvI_n, rmI_n, iMax_n, iMin_n, zO_0, zO_1, li_0, li_1, li_2, li_3, li_4, li_5, li_6, li_7, li_8, li_9, li_10, li_12, li_14, li_15, li_16, li_18, li_19, li_20, li_22, li_23, li_24, li_26, li_29, li_30, li_31, li_32, li_36, li_38, li_48, li_50, li_57, li_58, li_59, li_60, li_63, li_97, li_99, li_120, li_122, li_144, li_168, li_194, li_240, li_255, li_284, li_299, li_603, li_999, li_1200, li_1440, li_4095, li_4096, li_6030, li_16384, li_20160, zl0, zl1, zl2, zl3, zl4, ze01, ze02, ze03, ze04, ze10, ze12, ze13, ze14, ze20, ze21, ze23, ze24, ze30, ze31, ze32, ze34, ze40, ze41, ze42, ze43, zt0, zt1, zt2, zt3, zt4, zq0, zq1, zq2, zq3, zq4, it_t, it_f, Bool.true_eq_false, Bool.false_eq_true, na5, na4, na1441, na2, na10, sx_IOIA, sx_IOIS, sx_IONS, sx_IAIO, sx_IAIS, sx_IANS, sx_ISIO, sx_ISIA, sx_ISNS, sx_NSIO, sx_NSIA, sx_NSIS]
  generalize hK : DP tx n Q h0 h A o b (sDiff tx n M so (nmN M so) o b (n + 2) M1 0 s) = K
  refine aJ_gen (R := fun o => OK o K) (fun k96 hk96 => ?_)
  refine aJ_gen (R := fun o => OK o K) (fun k56 hk56 => ?_)
  refine aJ_gen (R := fun o => OK o K) (fun k34 hk34 => ?_)
  refine aL2_run (R := fun o => OK o K) (fun m s1 s2 h9 => ∃ f c s' M2, m = f ∧ s1 = nI c ∧ s2 = nI c ∧ n + 1 < s' + f ∧ sDiff tx n M so (nmN M so) o b (n + 2) M1 0 s = sDiff tx n M so (nmN M so) o b f M2 c s' ∧ CS tx n Q h0 h9 s' ∧ QW (fun o _ => o = A) 3 h h9 ∧ (∀ j, j < c → h_iv h9 A j = nI (M2 o (b + j))) ∧ (∀ j, j < c → M2 o (b + j) < nmN M so) ∧ ∀ i j, i < j → j < c → M2 o (b + i) ≠ M2 o (b + j)) ⟨n + 2, 0, s, M1, rfl, rfl, rfl, by omega, rfl, C, ⟨rfl, fun _ _ _ _ => rfl, fun _ _ _ _ => rfl⟩, fun j r => absurd r (Nat.not_lt_zero j), fun j r => absurd r (Nat.not_lt_zero j), fun i j _ r => absurd r (Nat.not_lt_zero j)⟩ (by omega) ?_
  rintro rec m s1 s2 h9 ⟨f, c, s', M2, rfl, rfl, rfl, hf, es, C9, W9, a1, a2, a3⟩ ih
  have S9 := C9.1
  have sn := C9.2.2.2.2.2.1
  have t6 := tok_lt6 (tx := tx) (n := n) (s := s')
  have cn : c ≤ nmN M so := pig (f := fun j => M2 o (b + j)) a2 a3
  cases m with
  | zero => omega
  | succ f =>
    have p9 := p.qw (W9.weak (B := Q + 47 + 3 * M 412 11)) hD hQ (fun o k r => Or.inr (Or.inr ⟨h6, by omega, by omega⟩)) (Or.inr (Or.inr ⟨h6, by omega, by omega⟩))
    simp (maxSteps := 3000000) (disch := first | assumption | omega) only [m_X9_readDifferent_L5, bO_v, bR_v, bX_l, bX_r, bC_l, bC_r, aLet_v, nI_add, pk_mul, dvI_n, rmI_n, iMax_n, iMin_n, zO_0, zO_1, li_0, li_1, li_2, li_3, li_4, li_5, li_6, li_7, li_8, li_9, li_10, li_12, li_14, li_15, li_16, li_18, li_19, li_20, li_22, li_23, li_24, li_26, li_29, li_30, li_31, li_32, li_36, li_38, li_48, li_50, li_57, li_58, li_59, li_60, li_63, li_97, li_99, li_120, li_122, li_144, li_168, li_194, li_240, li_255, li_284, li_299, li_603, li_999, li_1200, li_1440, li_4095, li_4096, li_6030, li_16384, li_20160, zl0, zl1, zl2, zl3, zl4, ze01, ze02, ze03, ze04, ze10, ze12, ze13, ze14, ze20, ze21, ze23, ze24, ze30, ze31, ze32, ze34, ze40, ze41, ze42, ze43, zt0, zt1, zt2, zt3, zt4, zq0, zq1, zq2, zq3, zq4, it_t, it_f, Bool.true_eq_false, Bool.false_eq_true, na5, na4, na1441, na2, na10, sx_IOIA, sx_IOIS, sx_IONS, sx_IAIO, sx_IAIS, sx_IANS, sx_ISIO, sx_ISIA, sx_ISNS, sx_NSIO, sx_NSIA, sx_NSIS, nI_ltI, nI_eq, c_cR_gi S9, C9.2.2.2.2.1.1]
    rw [if_pos (show c < 1200 by omega)]
    refine aJ_gen (R := fun o => OK o K) (fun k26 hk26 => ?_)
    by_cases ct : c ≠ 0 ∧ tok tx n s' ≠ 1
    · rw [if_neg ct.1, if_neg ct.2, hk96]
      refine ok_ret ?_
      rw [← hK, es, sDiff, if_pos ct]
      exact ⟨rfl, C9, W9, a1⟩
    · have go : OK (k26 h9) K := by
        rw [hk26]
        simp (maxSteps := 3000000) (disch := first | assumption | omega) only [c_cR_gS S9, bO_v, bR_v, bX_l, bX_r, bC_l, bC_r, aLet_v, nI_add, pk_mul, dvI_n, rmI_n, iMax_n, iMin_n, zO_0, zO_1, li_0, li_1, li_2, li_3, li_4, li_5, li_6, li_7, li_8, li_9, li_10, li_12, li_14, li_15, li_16, li_18, li_19, li_20, li_22, li_23, li_24, li_26, li_29, li_30, li_31, li_32, li_36, li_38, li_48, li_50, li_57, li_58, li_59, li_60, li_63, li_97, li_99, li_120, li_122, li_144, li_168, li_194, li_240, li_255, li_284, li_299, li_603, li_999, li_1200, li_1440, li_4095, li_4096, li_6030, li_16384, li_20160, zl0, zl1, zl2, zl3, zl4, ze01, ze02, ze03, ze04, ze10, ze12, ze13, ze14, ze20, ze21, ze23, ze24, ze30, ze31, ze32, ze34, ze40, ze41, ze42, ze43, zt0, zt1, zt2, zt3, zt4, zq0, zq1, zq2, zq3, zq4, it_t, it_f, Bool.true_eq_false, Bool.false_eq_true, na5, na4, na1441, na2, na10, sx_IOIA, sx_IOIS, sx_IONS, sx_IAIO, sx_IAIS, sx_IANS, sx_ISIO, sx_ISIA, sx_ISNS, sx_NSIO, sx_NSIA, sx_NSIS]
        obtain ⟨r, h10, e10, hh⟩ := k_nameOf X hQ C9 p9 hD hso
        rw [e10, bR_v]
        cases ea : sOf tx n M so (nmN M so) s' with
        | inl e =>
          rw [ea] at hh
          obtain ⟨rfl, q10⟩ := hh
          rw [if_pos rfl, hk34]
          refine ok_ret ?_
          rw [← hK, es, sDiff, if_neg ct, ea]
          exact ⟨rfl, q10⟩
        | inr a =>
          rw [ea] at hh
          obtain ⟨rfl, C10, R10, g7, g6, ha⟩ := hh
          have S10 := C10.1
          obtain ⟨b1', -, b3'⟩ := sOf_inr ea
          have ad := adv_gt (tx := tx) (nmd_in b1')
          rw [if_neg (by decide)]
          refine aJ_gen (R := fun o => OK o K) (fun k74 hk74 => ?_)
          refine aL1_run (R := fun o => OK o K) (fun m s1 g => g = h10 ∧ ∃ i, i ≤ c ∧ m = c - i ∧ s1 = nI i ∧ ∀ j, j < i → M2 o (b + j) ≠ a.1) ⟨rfl, 0, Nat.zero_le _, rfl, rfl, fun j r => absurd r (Nat.not_lt_zero j)⟩ (by omega) ?_
          rintro rec2 m s1 g ⟨rfl, i, hi, rfl, rfl, no⟩ ih2
          by_cases hlt : i < c
          · have ai : h_iv g A i = nI (M2 o (b + i)) := by rw [R10.2.2.2.2.2.1 _ _ (by omega)]; exact a1 i hlt
            have l1 := a2 i hlt
            simp (maxSteps := 3000000) (disch := first | assumption | omega) only [m_X9_readDifferent_L39, bO_v, bR_v, bX_l, bX_r, bC_l, bC_r, aLet_v, nI_add, pk_mul, dvI_n, rmI_n, iMax_n, iMin_n, zO_0, zO_1, li_0, li_1, li_2, li_3, li_4, li_5, li_6, li_7, li_8, li_9, li_10, li_12, li_14, li_15, li_16, li_18, li_19, li_20, li_22, li_23, li_24, li_26, li_29, li_30, li_31, li_32, li_36, li_38, li_48, li_50, li_57, li_58, li_59, li_60, li_63, li_97, li_99, li_120, li_122, li_144, li_168, li_194, li_240, li_255, li_284, li_299, li_603, li_999, li_1200, li_1440, li_4095, li_4096, li_6030, li_16384, li_20160, zl0, zl1, zl2, zl3, zl4, ze01, ze02, ze03, ze04, ze10, ze12, ze13, ze14, ze20, ze21, ze23, ze24, ze30, ze31, ze32, ze34, ze40, ze41, ze42, ze43, zt0, zt1, zt2, zt3, zt4, zq0, zq1, zq2, zq3, zq4, it_t, it_f, Bool.true_eq_false, Bool.false_eq_true, na5, na4, na1441, na2, na10, sx_IOIA, sx_IOIS, sx_IONS, sx_IAIO, sx_IAIS, sx_IANS, sx_ISIO, sx_ISIA, sx_ISNS, sx_NSIO, sx_NSIA, sx_NSIS, nI_ltI, rd _ S10 i (by omega), ai, c_cR_gi S10, g7, nI_eq]
            rw [if_pos hlt]
            by_cases ce : M2 o (b + i) = a.1
            · rw [if_pos ce, hk56]
              obtain ⟨h11, e11, q11, -⟩ := k_failsAt (c := 3) (p := s') S10 C10.2.1
              simp (maxSteps := 3000000) (disch := first | assumption | omega) only [c_cR_gi S10, g6, c_cR_gS S10, e11, bO_v, bR_v, bX_l, bX_r, bC_l, bC_r, aLet_v, nI_add, pk_mul, dvI_n, rmI_n, iMax_n, iMin_n, zO_0, zO_1, li_0, li_1, li_2, li_3, li_4, li_5, li_6, li_7, li_8, li_9, li_10, li_12, li_14, li_15, li_16, li_18, li_19, li_20, li_22, li_23, li_24, li_26, li_29, li_30, li_31, li_32, li_36, li_38, li_48, li_50, li_57, li_58, li_59, li_60, li_63, li_97, li_99, li_120, li_122, li_144, li_168, li_194, li_240, li_255, li_284, li_299, li_603, li_999, li_1200, li_1440, li_4095, li_4096, li_6030, li_16384, li_20160, zl0, zl1, zl2, zl3, zl4, ze01, ze02, ze03, ze04, ze10, ze12, ze13, ze14, ze20, ze21, ze23, ze24, ze30, ze31, ze32, ze34, ze40, ze41, ze42, ze43, zt0, zt1, zt2, zt3, zt4, zq0, zq1, zq2, zq3, zq4, it_t, it_f, Bool.true_eq_false, Bool.false_eq_true, na5, na4, na1441, na2, na10, sx_IOIA, sx_IOIS, sx_IONS, sx_IAIO, sx_IAIS, sx_IANS, sx_ISIO, sx_ISIA, sx_ISNS, sx_NSIO, sx_NSIA, sx_NSIS]
              refine ok_ret ?_
              rw [← hK, es, sDiff, if_neg ct, ea]
              show DP tx n Q h0 h A o b (if fa_first (fun j => decide (M2 o (b + j) = a.1)) c < c then .inl (3, s') else sDiff tx n M so (nmN M so) o b f (put M2 o (b + c) a.1) (c + 1) a.2) _ _
              rw [if_pos (fst_lt hlt (decide_eq_true ce))]
              exact ⟨rfl, q11⟩
            · rw [if_neg ce]
              refine ih2 _ _ _ (by omega) ⟨rfl, i + 1, hlt, rfl, rfl, fun j hj => ?_⟩
              by_cases cj : j = i
              · rw [cj]; exact ce
              · exact no j (by omega)
          · obtain rfl : i = c := by omega
            have c1 : i + 1 ≤ nmN M so := pig (f := fun j => if j < i then M2 o (b + j) else a.1) (fun j hj => by
              show (if j < i then M2 o (b + j) else a.1) < _
              split
              · exact a2 j ‹_›
              · exact ha) (fun u j huj hj => by
              show (if u < i then M2 o (b + u) else a.1) ≠ (if j < i then M2 o (b + j) else a.1)
              rw [if_pos (by omega)]
              split
              · exact a3 u j huj ‹_›
              · exact no u (by omega))
            simp (maxSteps := 3000000) (disch := first | assumption | omega) only [m_X9_readDifferent_L39, bO_v, bR_v, bX_l, bX_r, bC_l, bC_r, aLet_v, nI_add, pk_mul, dvI_n, rmI_n, iMax_n, iMin_n, zO_0, zO_1, li_0, li_1, li_2, li_3, li_4, li_5, li_6, li_7, li_8, li_9, li_10, li_12, li_14, li_15, li_16, li_18, li_19, li_20, li_22, li_23, li_24, li_26, li_29, li_30, li_31, li_32, li_36, li_38, li_48, li_50, li_57, li_58, li_59, li_60, li_63, li_97, li_99, li_120, li_122, li_144, li_168, li_194, li_240, li_255, li_284, li_299, li_603, li_999, li_1200, li_1440, li_4095, li_4096, li_6030, li_16384, li_20160, zl0, zl1, zl2, zl3, zl4, ze01, ze02, ze03, ze04, ze10, ze12, ze13, ze14, ze20, ze21, ze23, ze24, ze30, ze31, ze32, ze34, ze40, ze41, ze42, ze43, zt0, zt1, zt2, zt3, zt4, zq0, zq1, zq2, zq3, zq4, it_t, it_f, Bool.true_eq_false, Bool.false_eq_true, na5, na4, na1441, na2, na10, sx_IOIA, sx_IOIS, sx_IONS, sx_IAIO, sx_IAIS, sx_IANS, sx_ISIO, sx_ISIA, sx_ISNS, sx_NSIO, sx_NSIA, sx_NSIS, nI_ltI]
            rw [if_neg hlt, hk74]
            simp (maxSteps := 3000000) (disch := first | assumption | omega) only [al _ S10, bO_v, bR_v, bX_l, bX_r, bC_l, bC_r, aJ_v, aLet_v, nI_add, pk_mul, dvI_n, rmI_n, iMax_n, iMin_n, zO_0, zO_1, li_0, li_1, li_2, li_3, li_4, li_5, li_6, li_7, li_8, li_9, li_10, li_12, li_14, li_15, li_16, li_18, li_19, li_20, li_22, li_23, li_24, li_26, li_29, li_30, li_31, li_32, li_36, li_38, li_48, li_50, li_57, li_58, li_59, li_60, li_63, li_97, li_99, li_120, li_122, li_144, li_168, li_194, li_240, li_255, li_284, li_299, li_603, li_999, li_1200, li_1440, li_4095, li_4096, li_6030, li_16384, li_20160, zl0, zl1, zl2, zl3, zl4, ze01, ze02, ze03, ze04, ze10, ze12, ze13, ze14, ze20, ze21, ze23, ze24, ze30, ze31, ze32, ze34, ze40, ze41, ze42, ze43, zt0, zt1, zt2, zt3, zt4, zq0, zq1, zq2, zq3, zq4, it_t, it_f, Bool.true_eq_false, Bool.false_eq_true, na5, na4, na1441, na2, na10, sx_IOIA, sx_IOIS, sx_IONS, sx_IAIO, sx_IAIS, sx_IANS, sx_ISIO, sx_ISIA, sx_ISNS, sx_NSIO, sx_NSIA, sx_NSIS, nI_ltI]
            rw [if_pos (show i < len by omega)]
            simp (maxSteps := 3000000) (disch := first | assumption | omega) only [c_cR_gi S10, g7, wr _ S10 i _ (show i < len by omega), bO_v, bR_v, bX_l, bX_r, bC_l, bC_r, aJ_v, aLet_v, nI_add, pk_mul, dvI_n, rmI_n, iMax_n, iMin_n, zO_0, zO_1, li_0, li_1, li_2, li_3, li_4, li_5, li_6, li_7, li_8, li_9, li_10, li_12, li_14, li_15, li_16, li_18, li_19, li_20, li_22, li_23, li_24, li_26, li_29, li_30, li_31, li_32, li_36, li_38, li_48, li_50, li_57, li_58, li_59, li_60, li_63, li_97, li_99, li_120, li_122, li_144, li_168, li_194, li_240, li_255, li_284, li_299, li_603, li_999, li_1200, li_1440, li_4095, li_4096, li_6030, li_16384, li_20160, zl0, zl1, zl2, zl3, zl4, ze01, ze02, ze03, ze04, ze10, ze12, ze13, ze14, ze20, ze21, ze23, ze24, ze30, ze31, ze32, ze34, ze40, ze41, ze42, ze43, zt0, zt1, zt2, zt3, zt4, zq0, zq1, zq2, zq3, zq4, it_t, it_f, Bool.true_eq_false, Bool.false_eq_true, na5, na4, na1441, na2, na10, sx_IOIA, sx_IOIS, sx_IONS, sx_IAIO, sx_IAIS, sx_IANS, sx_ISIO, sx_ISIA, sx_ISNS, sx_NSIO, sx_NSIA, sx_NSIS]
            have F11 : Fx (fun o _ => o = A) g (h_si g A i (nI a.1)) := Fx.si rfl
            have e2 : sDiff tx n M so (nmN M so) o b (n + 2) M1 0 s = sDiff tx n M so (nmN M so) o b f (put M2 o (b + i) a.1) (i + 1) a.2 := by
              rw [es, sDiff, if_neg ct, ea]
              show (if fa_first (fun j => decide (M2 o (b + j) = a.1)) i < i then _ else _) = _
              rw [if_neg (fst_nlt (fun j hj => decide_eq_false (no j hj)))]
            refine ih f _ _ _ (by omega) ⟨f, i + 1, a.2, _, rfl, rfl, rfl, by omega, e2, C10.qx hQ F11 (fun o k r => by omega), (W9.trans R10.qw).trans (QW.fx F11), fun j hj => ?_, fun j hj => ?_, fun u j huj hj => ?_⟩
            · by_cases cj : j = i
              · rw [cj, si_at, put_e]
              · rw [si_ne (by omega), put_n (by omega), R10.2.2.2.2.2.1 _ _ (by omega)]; exact a1 j (by omega)
            · by_cases cj : j = i
              · rw [cj, put_e]; exact ha
              · rw [put_n (by omega)]; exact a2 j (by omega)
            · by_cases cj : j = i
              · rw [cj, put_e, put_n (by omega)]; exact no u (by omega)
              · rw [put_n (by omega), put_n (by omega)]; exact a3 u j huj (by omega)
      by_cases c0 : c = 0
      · rw [if_pos c0]; exact go
      · rw [if_neg c0]
        by_cases c1 : tok tx n s' = 1
        · rw [if_pos c1]; exact go
        · exact absurd ⟨c0, c1⟩ ct
end
