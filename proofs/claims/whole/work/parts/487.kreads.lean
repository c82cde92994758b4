/-! the class's reader: the whole text -/
section
variable {h h0 : aH} {tx : Nat → Nat} {n Q s : Nat} {M : Nat → Nat → Nat}
theorem nI_sur (x : Int32) : ∃ k, x = nI k := ⟨x.toBitVec.toNat, by
  apply Int32.toBitVec_inj.1
  show x.toBitVec = BitVec.ofNat 32 x.toBitVec.toNat
  simp⟩
theorem k_clear (hS : Sh h) (hQ : Q ∈ plL) : OK (m_X8_clear Q h) (fun _ h1 => Fx (fun o _ => o = Q ∨ o = Q + 3 ∨ o = Q + 7) h h1 ∧ CLr Q h1) := by
  have q := pl_in Q hQ
  have S1 : Sh (h_si h Q 1 (nI 0)) := hS.si _ _ _
  have S2 : Sh (h_si (h_si h Q 1 (nI 0)) Q 3 (nI 0)) := S1.si _ _ _
  simp (maxSteps := 3000000) (disch := first | assumption | omega) only [m_X8_clear, bO_v, bR_v, bX_l, bX_r, bC_l, bC_r, aLet_v, nI_add, pk_mul, dvI_n, rmI_n, iMax_n, iMin_n, zO_0, zO_1, li_0, li_1, li_2, li_3, li_4, li_5, li_6, li_7, li_8, li_9, li_10, li_12, li_14, li_15, li_16, li_18, li_19, li_20, li_22, li_23, li_24, li_26, li_29, li_30, li_31, li_32, li_36, li_38, li_48, li_50, li_57, li_58, li_59, li_60, li_63, li_97, li_99, li_120, li_122, li_144, li_168, li_194, li_240, li_255, li_284, li_299, li_603, li_999, li_1200, li_1440, li_4095, li_4096, li_6030, li_16384, li_20160, zl0, zl1, zl2, zl3, zl4, ze01, ze02, ze03, ze04, ze10, ze12, ze13, ze14, ze20, ze21, ze23, ze24, ze30, ze31, ze32, ze34, ze40, ze41, ze42, ze43, zt0, zt1, zt2, zt3, zt4, zq0, zq1, zq2, zq3, zq4, it_t, it_f, Bool.true_eq_false, Bool.false_eq_true, na5, na4, na1441, na2, na10, sx_IOIA, sx_IOIS, sx_IONS, sx_IAIO, sx_IAIS, sx_IANS, sx_ISIO, sx_ISIA, sx_ISNS, sx_NSIO, sx_NSIA, sx_NSIS, p_cP_pi hS hQ, p_cP_pi S1 hQ, p_ptr S2 hQ]
  have F2 : Fx (fun o _ => o = Q ∨ o = Q + 3 ∨ o = Q + 7) h (h_si (h_si h Q 1 (nI 0)) Q 3 (nI 0)) := (Fx.si (A := fun o _ => o = Q ∨ o = Q + 3 ∨ o = Q + 7) (Or.inl rfl)).trans (Fx.si (A := fun o _ => o = Q ∨ o = Q + 3 ∨ o = Q + 7) (Or.inl rfl))
  have a1 : h_iv (h_si (h_si h Q 1 (nI 0)) Q 3 (nI 0)) Q 1 = nI 0 := by rw [si_ne (by omega), si_at]
  have a3 : h_iv (h_si (h_si h Q 1 (nI 0)) Q 3 (nI 0)) Q 3 = nI 0 := si_at
  generalize h_si (h_si h Q 1 (nI 0)) Q 3 (nI 0) = h2 at F2 S2 a1 a3
  refine ok_bR (k_fill (p_ctr S2 hQ).1 (p_ctr S2 hQ).2 (by decide)) (fun _ h3 hh => ?_)
  obtain ⟨F3, f3⟩ := hh
  have S3 := F3.fx.sh S2
  have S4 : Sh (h_si h3 Q 5 (nI 0)) := S3.si _ _ _
  have S5 : Sh (h_si (h_si h3 Q 5 (nI 0)) Q 7 (nI 0)) := S4.si _ _ _
  have S6 : Sh (h_si (h_si (h_si h3 Q 5 (nI 0)) Q 7 (nI 0)) Q 9 (nI 0)) := S5.si _ _ _
  simp (maxSteps := 3000000) (disch := first | assumption | omega) only [bO_v, bR_v, bX_l, bX_r, bC_l, bC_r, aLet_v, nI_add, pk_mul, dvI_n, rmI_n, iMax_n, iMin_n, zO_0, zO_1, li_0, li_1, li_2, li_3, li_4, li_5, li_6, li_7, li_8, li_9, li_10, li_12, li_14, li_15, li_16, li_18, li_19, li_20, li_22, li_23, li_24, li_26, li_29, li_30, li_31, li_32, li_36, li_38, li_48, li_50, li_57, li_58, li_59, li_60, li_63, li_97, li_99, li_120, li_122, li_144, li_168, li_194, li_240, li_255, li_284, li_299, li_603, li_999, li_1200, li_1440, li_4095, li_4096, li_6030, li_16384, li_20160, zl0, zl1, zl2, zl3, zl4, ze01, ze02, ze03, ze04, ze10, ze12, ze13, ze14, ze20, ze21, ze23, ze24, ze30, ze31, ze32, ze34, ze40, ze41, ze42, ze43, zt0, zt1, zt2, zt3, zt4, zq0, zq1, zq2, zq3, zq4, it_t, it_f, Bool.true_eq_false, Bool.false_eq_true, na5, na4, na1441, na2, na10, sx_IOIA, sx_IOIS, sx_IONS, sx_IAIO, sx_IAIS, sx_IANS, sx_ISIO, sx_ISIA, sx_ISNS, sx_NSIO, sx_NSIA, sx_NSIS, p_cP_pi S3 hQ, p_cP_pi S4 hQ, p_cP_pi S5 hQ, p_pable S6 hQ]
  have F6 : Fx (fun o k => o = Q ∧ (k = 5 ∨ k = 7 ∨ k = 9)) h3 (h_si (h_si (h_si h3 Q 5 (nI 0)) Q 7 (nI 0)) Q 9 (nI 0)) := ((Fx.si (A := fun o k => o = Q ∧ (k = 5 ∨ k = 7 ∨ k = 9)) ⟨rfl, by omega⟩).trans (Fx.si ⟨rfl, by omega⟩)).trans (Fx.si ⟨rfl, by omega⟩)
  have a5 : h_iv (h_si (h_si (h_si h3 Q 5 (nI 0)) Q 7 (nI 0)) Q 9 (nI 0)) Q 5 = nI 0 := by rw [si_ne (by omega), si_ne (by omega), si_at]
  have a7 : h_iv (h_si (h_si (h_si h3 Q 5 (nI 0)) Q 7 (nI 0)) Q 9 (nI 0)) Q 7 = nI 0 := by rw [si_ne (by omega), si_at]
  have a9 : h_iv (h_si (h_si (h_si h3 Q 5 (nI 0)) Q 7 (nI 0)) Q 9 (nI 0)) Q 9 = nI 0 := si_at
  generalize h_si (h_si (h_si h3 Q 5 (nI 0)) Q 7 (nI 0)) Q 9 (nI 0) = h6 at F6 S6 a5 a7 a9
  refine ok_bR (k_fill (p_cable S6 hQ).1 (p_cable S6 hQ).2 (by decide)) (fun _ h7 hh => ?_)
  obtain ⟨F7, f7⟩ := hh
  have iv : ∀ o k, o ≠ Q + 7 → h_iv h7 o k = h_iv h6 o k := fun o k r => F7.fx.iv r
  have iv3 : ∀ o k, o ≠ Q + 3 → h_iv h3 o k = h_iv h2 o k := fun o k r => F3.fx.iv r
  refine ok_ret ⟨((F2.trans (F3.fx.mono (fun o k r => Or.inr (Or.inl r)))).trans (F6.mono (fun o k r => Or.inl r.1))).trans (F7.fx.mono (fun o k r => Or.inr (Or.inr r))), ?_, ?_, ?_, ?_, ?_, fun k hk => ?_, f7⟩
  · rw [iv _ _ (by omega), F6.iv (by omega), iv3 _ _ (by omega)]; exact a1
  · rw [iv _ _ (by omega), F6.iv (by omega), iv3 _ _ (by omega)]; exact a3
  · rw [iv _ _ (by omega)]; exact a5
  · rw [iv _ _ (by omega)]; exact a7
  · rw [iv _ _ (by omega)]; exact a9
  · rw [iv _ _ (by omega), F6.iv (by omega)]; exact f3 k hk
theorem CLr.fx {h1 : aH} (x : CLr Q h) (r : Fx TKx h h1) (hQ : Q ∈ plL) : CLr Q h1 := x.rf (RF.fx r (fun o k q => q.1)) hQ
/-- an item, of any section -/
theorem k_main (X : TX tx n h0) (hQ : Q ∈ plL) (C : CS tx n Q h0 h s) (p : PQ tx n Q M h) (w : WM M) (K : (Nat → Nat → Nat) → aH → Prop) (hK : ∀ M' h1 s', CS tx n Q h0 h1 s' → PQ tx n Q M' h1 → WM M' → K M' h1) {k191 k183 k83 : aH → Option (Int32 × aH)} (e191 : ∀ g, k191 g = some (nI 1, g)) (e183 : ∀ g, k183 g = some (nI 0, g)) (e83 : ∀ g s', CS tx n Q h0 g s' → ∃ g1, k83 g = some (nI 0, g1) ∧ CE Q h0 g1 (1, s')) :
    CP Q h0 (aL2 (m_X9_reads_L55 3 k191 k183 k83) FU (nI 0) (nI 0) h) (sMain tx n (n + 1) 0 M s) K := by
  have x1 := X.1
  refine aL2_run (R := fun o => CP Q h0 o (sMain tx n (n + 1) 0 M s) K) (fun m s1 s2 h9 => ∃ f c sec M' s', m = f ∧ s1 = nI sec ∧ s2 = nI c ∧ sec ≤ 4 ∧ c ≤ s' ∧ n < s' + f ∧ sMain tx n (n + 1) 0 M s = sMain tx n f sec M' s' ∧ CS tx n Q h0 h9 s' ∧ PQ tx n Q M' h9 ∧ WM M') ⟨n + 1, 0, 0, M, s, rfl, rfl, rfl, Nat.zero_le _, Nat.zero_le _, by omega, rfl, C, p, w⟩ (by omega) ?_
  rintro rec m s1 s2 h9 ⟨f, c, sec, M', s', rfl, rfl, rfl, hsec, hc, hf, es, C9, p9, w9⟩ ih
  have S9 := C9.1
  have sn := C9.2.2.2.2.2.1
  have t6 := tok_lt6 (tx := tx) (n := n) (s := s')
  cases m with
  | zero => omega
  | succ f =>
    rw [es, sMain]
    by_cases t5 : tok tx n s' = 5
    · rw [if_pos t5]
      simp (maxSteps := 3000000) (disch := first | assumption | omega) only [m_X9_reads_L55, bO_v, bR_v, bX_l, bX_r, bC_l, bC_r, aLet_v, nI_add, pk_mul, dvI_n, rmI_n, iMax_n, iMin_n, zO_0, zO_1, li_0, li_1, li_2, li_3, li_4, li_5, li_6, li_7, li_8, li_9, li_10, li_12, li_14, li_15, li_16, li_18, li_19, li_20, li_22, li_23, li_24, li_26, li_29, li_30, li_31, li_32, li_36, li_38, li_48, li_50, li_57, li_58, li_59, li_60, li_63, li_97, li_99, li_120, li_122, li_144, li_168, li_194, li_240, li_255, li_284, li_299, li_603, li_999, li_1200, li_1440, li_4095, li_4096, li_6030, li_16384, li_20160, zl0, zl1, zl2, zl3, zl4, ze01, ze02, ze03, ze04, ze10, ze12, ze13, ze14, ze20, ze21, ze23, ze24, ze30, ze31, ze32, ze34, ze40, ze41, ze42, ze43, zt0, zt1, zt2, zt3, zt4, zq0, zq1, zq2, zq3, zq4, it_t, it_f, Bool.true_eq_false, Bool.false_eq_true, na5, na4, na1441, na2, na10, sx_IOIA, sx_IOIS, sx_IONS, sx_IAIO, sx_IAIS, sx_IANS, sx_ISIO, sx_ISIA, sx_ISNS, sx_NSIO, sx_NSIA, sx_NSIS, nI_ltI, nI_eq, c_cR_gi S9, C9.2.2.2.2.1.1, e191, if_pos t5]
      rw [ite_self]
      exact cp_inr rfl (hK _ _ _ C9 p9 w9)
    · have sl := tok_in (tx := tx) (n := n) (s := s') t5
      rw [if_neg t5]
      simp (maxSteps := 3000000) (disch := first | assumption | omega) only [m_X9_reads_L55, bO_v, bR_v, bX_l, bX_r, bC_l, bC_r, aLet_v, nI_add, pk_mul, dvI_n, rmI_n, iMax_n, iMin_n, zO_0, zO_1, li_0, li_1, li_2, li_3, li_4, li_5, li_6, li_7, li_8, li_9, li_10, li_12, li_14, li_15, li_16, li_18, li_19, li_20, li_22, li_23, li_24, li_26, li_29, li_30, li_31, li_32, li_36, li_38, li_48, li_50, li_57, li_58, li_59, li_60, li_63, li_97, li_99, li_120, li_122, li_144, li_168, li_194, li_240, li_255, li_284, li_299, li_603, li_999, li_1200, li_1440, li_4095, li_4096, li_6030, li_16384, li_20160, zl0, zl1, zl2, zl3, zl4, ze01, ze02, ze03, ze04, ze10, ze12, ze13, ze14, ze20, ze21, ze23, ze24, ze30, ze31, ze32, ze34, ze40, ze41, ze42, ze43, zt0, zt1, zt2, zt3, zt4, zq0, zq1, zq2, zq3, zq4, it_t, it_f, Bool.true_eq_false, Bool.false_eq_true, na5, na4, na1441, na2, na10, sx_IOIA, sx_IOIS, sx_IONS, sx_IAIO, sx_IAIS, sx_IANS, sx_ISIO, sx_ISIA, sx_ISNS, sx_NSIO, sx_NSIA, sx_NSIS, nI_ltI, nI_eq, c_cR_gi S9, C9.2.2.2.2.1.1, if_neg t5, c_cR_gS S9, k_sectionOf X hQ C9]
      rw [if_pos (show c < 1200 by omega)]
      by_cases n5 : sSec tx n s' = 5
      · have lt1 : (-nI 1 : Int32) < nI sec := by
          rw [fa_lt, nI_toInt (by omega)]
          have h10 : (-nI 1 : Int32).toInt = -1 := by decide
          omega
        obtain ⟨g1, eg, q1⟩ := e83 _ _ C9
        rw [if_pos (Or.inr n5), if_pos n5, if_pos lt1, eg]
        exact cp_inl rfl q1
      · have s5 : sSec tx n s' < 5 := by
          have : sSec tx n s' ≤ 5 := by unfold sSec; (repeat' split) <;> omega
          omega
        rw [if_neg n5]
        by_cases ls : sSec tx n s' < sec
        · obtain ⟨g1, eg, q1⟩ := e83 _ _ C9
          rw [if_pos (Or.inl ls), if_pos (show nI (sSec tx n s') < nI sec by rw [nI_ltI (by omega) (by omega)]; exact ls), eg]
          exact cp_inl rfl q1
        · rw [if_neg (show ¬ (sSec tx n s' < sec ∨ sSec tx n s' = 5) by omega), if_neg (show ¬ nI (sSec tx n s') < nI sec by rw [nI_ltI (by omega) (by omega)]; exact ls)]
          refine aJ_gen (R := fun o => CP Q h0 o _ K) (fun k170 hk170 => ?_)
          have go : ∀ (x : Option (Int32 × aH)), CP Q h0 x (sItem tx n (sSec tx n s') M' s') (fun r h1 => CS tx n Q h0 h1 r.2 ∧ PQ tx n Q r.1 h1) → CP Q h0 (bR x fun r g => k170 r g) (sb (sItem tx n (sSec tx n s') M' s') fun r => sb (sSym tx n r.2 3) fun s2 => sMain tx n f (sSec tx n s') r.1 s2) K := fun x hx => by
            obtain ⟨r, h10, e10, hh⟩ := hx
            rw [e10, bR_v, hk170]
            dsimp only
            cases ei : sItem tx n (sSec tx n s') M' s' with
            | inl e =>
              rw [ei] at hh
              obtain ⟨rfl, q10⟩ := hh
              rw [if_pos rfl, e183]
              exact cp_inl rfl q10
            | inr a =>
              rw [ei] at hh
              obtain ⟨rfl, C10, p10⟩ := hh
              obtain ⟨w10, l1, l2⟩ := wm_item w9 sl ei
              rw [if_neg (by decide)]
              simp (maxSteps := 3000000) (disch := first | assumption | omega) only [c_cR_gS C10.1, bO_v, bR_v, bX_l, bX_r, bC_l, bC_r, aLet_v, nI_add, pk_mul, dvI_n, rmI_n, iMax_n, iMin_n, zO_0, zO_1, li_0, li_1, li_2, li_3, li_4, li_5, li_6, li_7, li_8, li_9, li_10, li_12, li_14, li_15, li_16, li_18, li_19, li_20, li_22, li_23, li_24, li_26, li_29, li_30, li_31, li_32, li_36, li_38, li_48, li_50, li_57, li_58, li_59, li_60, li_63, li_97, li_99, li_120, li_122, li_144, li_168, li_194, li_240, li_255, li_284, li_299, li_603, li_999, li_1200, li_1440, li_4095, li_4096, li_6030, li_16384, li_20160, zl0, zl1, zl2, zl3, zl4, ze01, ze02, ze03, ze04, ze10, ze12, ze13, ze14, ze20, ze21, ze23, ze24, ze30, ze31, ze32, ze34, ze40, ze41, ze42, ze43, zt0, zt1, zt2, zt3, zt4, zq0, zq1, zq2, zq3, zq4, it_t, it_f, Bool.true_eq_false, Bool.false_eq_true, na5, na4, na1441, na2, na10, sx_IOIA, sx_IOIS, sx_IONS, sx_IAIO, sx_IAIS, sx_IANS, sx_ISIO, sx_ISIA, sx_ISNS, sx_NSIO, sx_NSIA, sx_NSIS]
              obtain ⟨r2, h11, e11, hh⟩ := k_symbol X hQ C10 (t := 3) (Or.inl rfl)
              rw [e11, bR_v]
              cases ey : sSym tx n a.2 3 with
              | inl e =>
                rw [ey] at hh
                obtain ⟨rfl, q11⟩ := hh
                rw [if_pos rfl, e183]
                exact cp_inl (by show sb (sSym tx n a.2 3) _ = _; rw [ey]; rfl) q11
              | inr s2 =>
                rw [ey] at hh
                obtain ⟨rfl, C11, R11⟩ := hh
                obtain ⟨i1, rfl⟩ := sSym_inr (by decide) ey
                have ad := adv_gt (tx := tx) i1
                rw [if_neg (by decide)]
                have e2 : sMain tx n (n + 1) 0 M s = sMain tx n f (sSec tx n s') a.1 (adv tx n a.2) := by
                  rw [es, sMain, if_neg t5, if_neg (by omega), ei]
                  show sb (sSym tx n a.2 3) _ = _
                  rw [ey]; rfl
                have e3 : (sb (.inr a : ER ⊕ ((Nat → Nat → Nat) × Nat)) fun r => sb (sSym tx n r.2 3) fun s2 => sMain tx n f (sSec tx n s') r.1 s2) = sMain tx n (n + 1) 0 M s := by
                  rw [e2]
                  show sb (sSym tx n a.2 3) _ = _
                  rw [ey]; rfl
                rw [e3]
                exact ih f _ _ _ (by omega) ⟨f, c + 1, _, _, _, rfl, rfl, rfl, by omega, by omega, by omega, e2, C11, p10.rf R11 w10.1 hQ, w10⟩
          rcases (show sSec tx n s' = 0 ∨ sSec tx n s' = 1 ∨ sSec tx n s' = 2 ∨ sSec tx n s' = 3 ∨ sSec tx n s' = 4 by omega) with r | r | r | r | r <;> rw [r] at go ⊢
          · rw [swO_l0 (by omega), if_pos rfl]
            exact go _ (k_person X hQ C9 p9 w9 sl)
          · rw [swO_l0 (by omega), if_neg (by decide), swO_l1 (by omega), if_pos rfl]
            exact go _ (k_trust X hQ C9 p9 w9 sl)
          · rw [swO_l0 (by omega), if_neg (by decide), swO_l1 (by omega), if_neg (by decide), swO_l2 (by omega), if_pos rfl]
            exact go _ (k_pager X hQ C9 p9 w9 sl)
          · rw [swO_l0 (by omega), if_neg (by decide), swO_l1 (by omega), if_neg (by decide), swO_l2 (by omega), if_neg (by decide), swO_l3 (by omega), if_pos rfl]
            exact go _ (k_engine X hQ C9 p9 w9 sl)
          · rw [swO_l0 (by omega), if_neg (by decide), swO_l1 (by omega), if_neg (by decide), swO_l2 (by omega), if_neg (by decide), swO_l3 (by omega), if_neg (by decide)]
            exact go _ (k_kind X hQ C9 p9 w9 sl)
/-- what the reader tells of a text -/
def RD (tx : Nat → Nat) (n Q : Nat) (h : aH) (r : Int32) (h1 : aH) : Prop := Sh h1 ∧ KX Q h h1 ∧ match sText tx n with
  | .inl e => r = nI 0 ∧ h_iv h1 3 9 = nI e.1 ∧ h_iv h1 3 10 = nI e.2
  | .inr M => r = nI 1 ∧ h_iv h1 3 9 = nI 0 ∧ h_iv h1 3 10 = -nI 1 ∧ PQ tx n Q M h1 ∧ WM M
theorem k_reads (hS : Sh h) (X : TX tx n h) (hQ : Q ∈ plL) : OK (m_X9_reads 3 (nI n) Q h) (RD tx n Q h) := by
  have q := pl_in Q hQ
  have x1 := X.1
  have mn : min n 1200 = n := Nat.min_eq_left x1
  have S1 : Sh (h_si h 3 1 (nI n)) := hS.si _ _ _
  have S2 : Sh (h_sr (h_si h 3 1 (nI n)) 3 2 Q) := S1.sr _ _ _ (by decide +kernel)
  have w2 : pr (h_si h 3 1 (nI n)) 9 3 2 Q = some (h_sr (h_si h 3 1 (nI n)) 3 2 Q) := pr_ok (c_cR S1) (pl_ne0 Q hQ)
  have S3 : Sh (h_si (h_sr (h_si h 3 1 (nI n)) 3 2 Q) 3 5 (nI 0)) := S2.si _ _ _
  have S4 : Sh (h_si (h_si (h_sr (h_si h 3 1 (nI n)) 3 2 Q) 3 5 (nI 0)) 3 9 (nI 0)) := S3.si _ _ _
  have S5 : Sh (h_si (h_si (h_si (h_sr (h_si h 3 1 (nI n)) 3 2 Q) 3 5 (nI 0)) 3 9 (nI 0)) 3 10 (-nI 1)) := S4.si _ _ _
  simp (maxSteps := 3000000) (disch := first | assumption | omega) only [m_X9_reads, bO_v, bR_v, bX_l, bX_r, bC_l, bC_r, aLet_v, nI_add, pk_mul, dvI_n, rmI_n, iMax_n, iMin_n, zO_0, zO_1, li_0, li_1, li_2, li_3, li_4, li_5, li_6, li_7, li_8, li_9, li_10, li_12, li_14, li_15, li_16, li_18, li_19, li_20, li_22, li_23, li_24, li_26, li_29, li_30, li_31, li_32, li_36, li_38, li_48, li_50, li_57, li_58, li_59, li_60, li_63, li_97, li_99, li_120, li_122, li_144, li_168, li_194, li_240, li_255, li_284, li_299, li_603, li_999, li_1200, li_1440, li_4095, li_4096, li_6030, li_16384, li_20160, zl0, zl1, zl2, zl3, zl4, ze01, ze02, ze03, ze04, ze10, ze12, ze13, ze14, ze20, ze21, ze23, ze24, ze30, ze31, ze32, ze34, ze40, ze41, ze42, ze43, zt0, zt1, zt2, zt3, zt4, zq0, zq1, zq2, zq3, zq4, it_t, it_f, Bool.true_eq_false, Bool.false_eq_true, na5, na4, na1441, na2, na10, sx_IOIA, sx_IOIS, sx_IONS, sx_IAIO, sx_IAIS, sx_IANS, sx_ISIO, sx_ISIA, sx_ISNS, sx_NSIO, sx_NSIA, sx_NSIS, c_prtxt hS, c_ctxt_ln hS, mn, c_cR_pi hS, w2, c_cR_pi S2, c_cR_pi S3, c_cR_pi S4, p_cP_gS S5 hQ]
  have k5 : KX Q h (h_si (h_si (h_si (h_sr (h_si h 3 1 (nI n)) 3 2 Q) 3 5 (nI 0)) 3 9 (nI 0)) 3 10 (-nI 1)) := by
    refine ⟨rfl, rfl, rfl, rfl, fun o k r => ?_, fun o k r => u2n r, fun _ _ _ => rfl⟩
    rw [si_ne (by omega), si_ne (by omega), si_ne (by omega)]
    exact si_ne (by omega)
  have a1 : h_iv (h_si (h_si (h_si (h_sr (h_si h 3 1 (nI n)) 3 2 Q) 3 5 (nI 0)) 3 9 (nI 0)) 3 10 (-nI 1)) 3 1 = nI n := by
    rw [si_ne (by omega), si_ne (by omega), si_ne (by omega)]
    show h_iv (h_si h 3 1 (nI n)) 3 1 = nI n
    exact si_at
  have a2 : h_rv (h_si (h_si (h_si (h_sr (h_si h 3 1 (nI n)) 3 2 Q) 3 5 (nI 0)) 3 9 (nI 0)) 3 10 (-nI 1)) 3 2 = Q := by
    show h_rv (h_sr (h_si h 3 1 (nI n)) 3 2 Q) 3 2 = Q
    exact sr_at
  have a5 : h_iv (h_si (h_si (h_si (h_sr (h_si h 3 1 (nI n)) 3 2 Q) 3 5 (nI 0)) 3 9 (nI 0)) 3 10 (-nI 1)) 3 5 = nI 0 := by
    rw [si_ne (by omega), si_ne (by omega), si_at]
  have a9 : h_iv (h_si (h_si (h_si (h_sr (h_si h 3 1 (nI n)) 3 2 Q) 3 5 (nI 0)) 3 9 (nI 0)) 3 10 (-nI 1)) 3 9 = nI 0 := by rw [si_ne (by omega), si_at]
  have a10 : h_iv (h_si (h_si (h_si (h_sr (h_si h 3 1 (nI n)) 3 2 Q) 3 5 (nI 0)) 3 9 (nI 0)) 3 10 (-nI 1)) 3 10 = -nI 1 := si_at
  generalize h_si (h_si (h_si (h_sr (h_si h 3 1 (nI n)) 3 2 Q) 3 5 (nI 0)) 3 9 (nI 0)) 3 10 (-nI 1) = h5 at S5 k5 a1 a2 a5 a9 a10
  have X5 := X.kx k5 hQ
  obtain ⟨_, h6, e6, F6, cl6⟩ := k_clear S5 hQ
  have S6 := F6.sh S5
  have K6 : KX Q h5 h6 := KX.fx F6 (fun o k r => Or.inr (by omega))
  have X6 := X5.kx K6 hQ
  obtain ⟨s0, es0⟩ := nI_sur (h_iv h6 3 4)
  obtain ⟨_, h7, e7, F7, L7, -⟩ := k_take (tx := tx) S6 X6 (by rw [F6.iv (by omega)]; exact a1) (by rw [F6.iv (by omega)]; exact a5) es0 (Nat.zero_le n)
  have S7 := F7.sh S6
  have K7 : KX Q h5 h7 := K6.trans (KX.fx F7 (fun o k r => Or.inl r.1))
  have sk := skp_le (tx := tx) (Nat.zero_le n)
  have C7 : CS tx n Q h5 h7 (skp tx n 0) := ⟨S7, K7, by rw [F7.2.2.2.2.1, F6.2.2.2.2.1]; exact a2, by rw [F7.iv (by unfold TKx; omega), F6.iv (by omega)]; exact a1, L7, sk.2, skp_skp (Nat.zero_le n), by rw [F7.iv (by unfold TKx; omega), F6.iv (by omega)], by rw [F7.iv (by unfold TKx; omega), F6.iv (by omega)]⟩
  simp (maxSteps := 3000000) (disch := first | assumption | omega) only [e6, bO_v, bR_v, bX_l, bX_r, bC_l, bC_r, aLet_v, nI_add, pk_mul, dvI_n, rmI_n, iMax_n, iMin_n, zO_0, zO_1, li_0, li_1, li_2, li_3, li_4, li_5, li_6, li_7, li_8, li_9, li_10, li_12, li_14, li_15, li_16, li_18, li_19, li_20, li_22, li_23, li_24, li_26, li_29, li_30, li_31, li_32, li_36, li_38, li_48, li_50, li_57, li_58, li_59, li_60, li_63, li_97, li_99, li_120, li_122, li_144, li_168, li_194, li_240, li_255, li_284, li_299, li_603, li_999, li_1200, li_1440, li_4095, li_4096, li_6030, li_16384, li_20160, zl0, zl1, zl2, zl3, zl4, ze01, ze02, ze03, ze04, ze10, ze12, ze13, ze14, ze20, ze21, ze23, ze24, ze30, ze31, ze32, ze34, ze40, ze41, ze42, ze43, zt0, zt1, zt2, zt3, zt4, zq0, zq1, zq2, zq3, zq4, it_t, it_f, Bool.true_eq_false, Bool.false_eq_true, na5, na4, na1441, na2, na10, sx_IOIA, sx_IOIS, sx_IONS, sx_IAIO, sx_IAIS, sx_IANS, sx_ISIO, sx_ISIA, sx_ISNS, sx_NSIO, sx_NSIA, sx_NSIS, c_cR_gS S6, e7, c_cR_gS S7]
  have main : CP Q h5 (bR (m_X9_readsNight 3 h7) fun x6 h8 => if x6 = nI 0 then some (nI 0, h8) else aJ (fun h9 => some (nI 1, h9)) fun k191 => aJ (fun h10 => some (nI 0, h10)) fun k183 => aJ (fun h11 => gS h11 9 3 (bR (m_X9_fails 3 (nI 1) h11) fun x7 h12 => bO (zO x7) fun x8 => some (x8, h12))) fun k83 => aL2 (m_X9_reads_L55 3 k191 k183 k83) FU (nI 0) (nI 0) h8) (sText tx n) (fun M h1 => (∃ s', CS tx n Q h5 h1 s') ∧ PQ tx n Q M h1 ∧ WM M) := by
    unfold sText
    refine sb_cp (k_night X5 hQ C7 (cl6.fx F7 hQ)) (fun r h8 er hh => ?_)
    obtain ⟨C8, p8⟩ := hh
    obtain ⟨w8, -, -⟩ := wm_night er
    refine aJ_gen (R := fun o => CP Q h5 o _ _) (fun k191 hk191 => ?_)
    refine aJ_gen (R := fun o => CP Q h5 o _ _) (fun k183 hk183 => ?_)
    refine aJ_gen (R := fun o => CP Q h5 o _ _) (fun k83 hk83 => ?_)
    refine k_main X5 hQ C8 p8 w8 _ (fun M' h1 s' c1 c2 c3 => ⟨⟨s', c1⟩, c2, c3⟩) (fun g => by rw [hk191]) (fun g => by rw [hk183]) (fun g s' c => ?_)
    obtain ⟨g1, eg, q1, -⟩ := k_fails c (c := 1)
    refine ⟨g1, ?_, q1⟩
    rw [hk83]
    simp (maxSteps := 3000000) (disch := first | assumption | omega) only [c_cR_gS c.1, eg, bO_v, bR_v, bX_l, bX_r, bC_l, bC_r, aLet_v, nI_add, pk_mul, dvI_n, rmI_n, iMax_n, iMin_n, zO_0, zO_1, li_0, li_1, li_2, li_3, li_4, li_5, li_6, li_7, li_8, li_9, li_10, li_12, li_14, li_15, li_16, li_18, li_19, li_20, li_22, li_23, li_24, li_26, li_29, li_30, li_31, li_32, li_36, li_38, li_48, li_50, li_57, li_58, li_59, li_60, li_63, li_97, li_99, li_120, li_122, li_144, li_168, li_194, li_240, li_255, li_284, li_299, li_603, li_999, li_1200, li_1440, li_4095, li_4096, li_6030, li_16384, li_20160, zl0, zl1, zl2, zl3, zl4, ze01, ze02, ze03, ze04, ze10, ze12, ze13, ze14, ze20, ze21, ze23, ze24, ze30, ze31, ze32, ze34, ze40, ze41, ze42, ze43, zt0, zt1, zt2, zt3, zt4, zq0, zq1, zq2, zq3, zq4, it_t, it_f, Bool.true_eq_false, Bool.false_eq_true, na5, na4, na1441, na2, na10, sx_IOIA, sx_IOIS, sx_IONS, sx_IAIO, sx_IAIS, sx_IANS, sx_ISIO, sx_ISIA, sx_ISNS, sx_NSIO, sx_NSIA, sx_NSIS]
  refine ok_mono main (fun r h1 hh => ?_)
  unfold RD
  cases et : sText tx n with
  | inl e =>
    rw [et] at hh
    obtain ⟨rfl, c1, c2, c3, c4⟩ := hh
    exact ⟨c1, k5.trans c2, rfl, c3, c4⟩
  | inr M =>
    rw [et] at hh
    obtain ⟨rfl, ⟨s', C⟩, pq, w⟩ := hh
    exact ⟨C.1, k5.trans C.2.1, rfl, C.2.2.2.2.2.2.2.1.trans a9, C.2.2.2.2.2.2.2.2.trans a10, pq, w⟩
end
