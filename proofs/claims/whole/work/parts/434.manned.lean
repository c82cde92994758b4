/-! manned: the reference tries all sets, as many as the class counts -/
def mxB (f : Nat → Bool) : Nat → Nat
  | 0 => 0
  | n + 1 => if f n = true ∧ mxB f n < sz n then sz n else mxB f n
theorem mxB_ge {f : Nat → Bool} {m : Nat} (hf : f m = true) : ∀ {n : Nat}, m < n → sz m ≤ mxB f n
  | 0, h => absurd h (Nat.not_lt_zero m)
  | n + 1, h => by
    rw [mxB]
    by_cases e : m = n
    · subst e
      by_cases c : mxB f m < sz m
      · rw [if_pos ⟨hf, c⟩]; exact Nat.le_refl _
      · rw [if_neg (fun q => c q.2)]; omega
    · have := mxB_ge hf (n := n) (by omega)
      split <;> omega
theorem mxB_in {f : Nat → Bool} : ∀ n, mxB f n = 0 ∨ ∃ m, m < n ∧ f m = true ∧ mxB f n = sz m
  | 0 => Or.inl rfl
  | n + 1 => by
    rw [mxB]
    by_cases c : f n = true ∧ mxB f n < sz n
    · rw [if_pos c]
      exact Or.inr ⟨n, by omega, c.1, rfl⟩
    · rw [if_neg c]
      rcases mxB_in (f := f) n with h | ⟨m, h1, h2, h3⟩
      · exact Or.inl h
      · exact Or.inr ⟨m, by omega, h2, h3⟩
theorem mxB_rk {t K : Nat → Nat} (ht : ∀ k, t k < 5) {set N n : Nat} (hN : N ≤ 12) (hs : set < 2 ^ N) : mxB (rcB t K set false N n) 4096 = rk t K n set := by
  have hs2 := two_pow_lt hN hs
  obtain ⟨⟨m, m1, m2, m3⟩, hle⟩ := rk_spec (K := K) ht n set
  have hm : m < 4096 := sub_lt (N := 12) m1 hs2
  have h1 := mxB_ge (f := rcB t K set false N n) ((rcB_t hN hs).mpr ⟨m2, m1⟩) hm
  rcases mxB_in (f := rcB t K set false N n) 4096 with h | ⟨q, q1, q2, q3⟩
  · omega
  · have h2 := (rcB_t hN hs).mp q2
    have := hle q h2.2 h2.1
    omega
/-- what the reference may change when it is asked -/
def SCr (o k : Nat) : Prop := JNx o ∨ SCx o k ∨ o = 416 ∨ (o = 412 ∧ k = 0)
theorem SCr_no {o k : Nat} (q : rfC o k) : ¬ SCr o k := by unfold rfC at q; unfold SCr JNx SCx; omega
section
variable {h : aH} {T : Nat → Nat → Nat}
theorem r_isEngine (hS : Sh h) (z : RefR h T) (hD : PlD T) {x y : Int32} : m_X12_isEngine 412 x y h = some (b2i (inr x (T 412 11) && inr y (T 433 x.toNatClampNeg)), h) := by
  have d2 := hD.nK
  simp (maxSteps := 3000000) (disch := first | assumption | omega) only [m_X12_isEngine, bO_v, bR_v, bX_l, bX_r, bC_l, bC_r, aJ_v, aLet_v, nI_add, pk_mul, dvI_n, rmI_n, iMax_n, iMin_n, zO_0, zO_1, li_0, li_1, li_2, li_3, li_4, li_5, li_6, li_7, li_8, li_9, li_10, li_12, li_14, li_15, li_16, li_18, li_19, li_20, li_22, li_23, li_24, li_26, li_29, li_30, li_31, li_32, li_36, li_38, li_48, li_50, li_57, li_58, li_59, li_60, li_63, li_97, li_99, li_120, li_122, li_144, li_168, li_194, li_240, li_255, li_284, li_299, li_603, li_999, li_1200, li_1440, li_4095, li_4096, li_6030, li_16384, li_20160, r_cM_gS hS, r_isKind hS z hD, b2i_0]
  by_cases c : inr x (T 412 11) = false
  · rw [if_pos c, c]
    rfl
  · rw [if_neg c]
    have t : inr x (T 412 11) = true := by simpa using c
    obtain ⟨k, hk, rfl⟩ := inr_t t (by omega)
    have d3 := hD.ken k hk
    have e1 : (nI k).toNatClampNeg = k := nI_clamp (by omega)
    simp (maxSteps := 3000000) (disch := first | assumption | omega) only [bO_v, bR_v, bX_l, bX_r, bC_l, bC_r, aJ_v, aLet_v, nI_add, pk_mul, dvI_n, rmI_n, iMax_n, iMin_n, zO_0, zO_1, li_0, li_1, li_2, li_3, li_4, li_5, li_6, li_7, li_8, li_9, li_10, li_12, li_14, li_15, li_16, li_18, li_19, li_20, li_22, li_23, li_24, li_26, li_29, li_30, li_31, li_32, li_36, li_38, li_48, li_50, li_57, li_58, li_59, li_60, li_63, li_97, li_99, li_120, li_122, li_144, li_168, li_194, li_240, li_255, li_284, li_299, li_603, li_999, li_1200, li_1440, li_4095, li_4096, li_6030, li_16384, li_20160, r_p433 hS, r_c433_al hS, z.c433, r_inn, b2i_0]
    rw [t, Bool.true_and, e1]
    by_cases c2 : inr y (T 433 k) = false
    · rw [if_pos c2, c2]
      rfl
    · rw [if_neg c2, show inr y (T 433 k) = true by simpa using c2]
      rfl
theorem r_manned_out (hS : Sh h) (z : RefR h T) (hD : PlD T) {x y : Int32} (hx : (inr x (T 412 11) && inr y (T 433 x.toNatClampNeg)) = false) : m_X12_manned 412 x y h = some (nI 0, h_si h 412 0 (nI 1)) := by
  have n10 : ¬ nI 1 ≤ nI 0 := by decide
  simp (maxSteps := 3000000) (disch := first | assumption | omega) only [m_X12_manned, bO_v, bR_v, bX_l, bX_r, bC_l, bC_r, aJ_v, aLet_v, nI_add, pk_mul, dvI_n, rmI_n, iMax_n, iMin_n, zO_0, zO_1, li_0, li_1, li_2, li_3, li_4, li_5, li_6, li_7, li_8, li_9, li_10, li_12, li_14, li_15, li_16, li_18, li_19, li_20, li_22, li_23, li_24, li_26, li_29, li_30, li_31, li_32, li_36, li_38, li_48, li_50, li_57, li_58, li_59, li_60, li_63, li_97, li_99, li_120, li_122, li_144, li_168, li_194, li_240, li_255, li_284, li_299, li_603, li_999, li_1200, li_1440, li_4095, li_4096, li_6030, li_16384, li_20160, r_cM_gS hS, r_isEngine hS z hD, hx, b2i_0, r_cM_pi hS, r_cM_gi (hS.si _ _ _), si_at]
  rw [if_pos trivial, if_neg n10]
theorem r_manned (hS : Sh h) (z : RefR h T) (hD : PlD T) (hR : RwD T (T 413)) {k i : Nat} (hk : k < T 412 11) (hi : i < T 433 k) : OK (m_X12_manned 412 (nI k) (nI i) h) (fun r h1 => r = nI (rk (tyE T (enK T k i)) (Kc T) (T 426 (enK T k i)) (plF T (T 413) k i)) ∧ h_iv h1 412 0 = nI 0 ∧ Fx SCr h h1) := by
  have d0 := hD.nP
  have d1 := hD.nE
  have d2 := hD.nK
  have d3 := hD.ken k hk
  have he : enK T k i < T 412 10 := hD.ke k hk i hi
  have d5 := hD.pst _ he
  have e1 : (nI k).toNatClampNeg = k := nI_clamp (by omega)
  have en : (inr (nI k) (T 412 11) && inr (nI i) (T 433 (nI k).toNatClampNeg)) = true := by rw [e1, inr_n hk (by omega), inr_n hi (by omega)]; rfl
  have le0 : nI 0 ≤ nI 0 := by decide
  have S1 := hS.si 412 0 (nI 0)
  have z1 : RefR (h_si h 412 0 (nI 0)) T := z.sc (by unfold rfC; omega)
  have F1 : Fx SCr h (h_si h 412 0 (nI 0)) := Fx.si (Or.inr (Or.inr (Or.inr ⟨rfl, rfl⟩)))
  have g1 : h_iv (h_si h 412 0 (nI 0)) 412 0 = nI 0 := si_at
  have bt : ¬ (true = false) := by decide
  simp (maxSteps := 3000000) (disch := first | assumption | omega) only [m_X12_manned, bO_v, bR_v, bX_l, bX_r, bC_l, bC_r, aLet_v, nI_add, pk_mul, dvI_n, rmI_n, iMax_n, iMin_n, zO_0, zO_1, li_0, li_1, li_2, li_3, li_4, li_5, li_6, li_7, li_8, li_9, li_10, li_12, li_14, li_15, li_16, li_18, li_19, li_20, li_22, li_23, li_24, li_26, li_29, li_30, li_31, li_32, li_36, li_38, li_48, li_50, li_57, li_58, li_59, li_60, li_63, li_97, li_99, li_120, li_122, li_144, li_168, li_194, li_240, li_255, li_284, li_299, li_603, li_999, li_1200, li_1440, li_4095, li_4096, li_6030, li_16384, li_20160, r_cM_gS hS, r_isEngine hS z hD, en, b2i_0]
  refine aJ_gen (R := fun o => OK o _) (fun k15 hk15 => ?_)
  rw [if_neg bt, hk15]
  simp (maxSteps := 3000000) (disch := first | assumption | omega) only [bO_v, bR_v, bX_l, bX_r, bC_l, bC_r, aLet_v, nI_add, pk_mul, dvI_n, rmI_n, iMax_n, iMin_n, zO_0, zO_1, li_0, li_1, li_2, li_3, li_4, li_5, li_6, li_7, li_8, li_9, li_10, li_12, li_14, li_15, li_16, li_18, li_19, li_20, li_22, li_23, li_24, li_26, li_29, li_30, li_31, li_32, li_36, li_38, li_48, li_50, li_57, li_58, li_59, li_60, li_63, li_97, li_99, li_120, li_122, li_144, li_168, li_194, li_240, li_255, li_284, li_299, li_603, li_999, li_1200, li_1440, li_4095, li_4096, li_6030, li_16384, li_20160, r_cM_pi hS, r_cM_gi S1, r_cM_gS S1, g1]
  rw [if_pos le0]
  generalize h_si h 412 0 (nI 0) = h1 at S1 z1 F1 g1 ⊢
  refine ok_bR (r_plans S1 z1 hD hR hk) (fun _ h2 hh => ?_)
  obtain ⟨F2, -, -, P2⟩ := hh
  have S2 := F2.sh S1
  have z2 := z1.fx F2 SCx_no
  have g2 : h_iv h2 412 0 = nI 0 := by rw [F2.iv (by unfold SCx; omega)]; exact g1
  have fr := (P2 i hi).2.2.1
  have F2' : Fx SCr h h2 := F1.trans (F2.mono (fun o j q => Or.inr (Or.inl q)))
  simp (maxSteps := 3000000) (disch := first | assumption | omega) only [bO_v, bR_v, bX_l, bX_r, bC_l, bC_r, aLet_v, nI_add, pk_mul, dvI_n, rmI_n, iMax_n, iMin_n, zO_0, zO_1, li_0, li_1, li_2, li_3, li_4, li_5, li_6, li_7, li_8, li_9, li_10, li_12, li_14, li_15, li_16, li_18, li_19, li_20, li_22, li_23, li_24, li_26, li_29, li_30, li_31, li_32, li_36, li_38, li_48, li_50, li_57, li_58, li_59, li_60, li_63, li_97, li_99, li_120, li_122, li_144, li_168, li_194, li_240, li_255, li_284, li_299, li_603, li_999, li_1200, li_1440, li_4095, li_4096, li_6030, li_16384, li_20160, r_p434 S2, r_c434_al S2, z2.c434, r_p458 S2, r_c458_al S2, fr, r_cM_gS S2]
  refine ok_bR (r_begins S2) (fun _ h3 hh => ?_)
  obtain ⟨F3, v3⟩ := hh
  have S3 := F3.sh S2
  have hset := plF_lt hD (T 413) k i
  have hset2 := two_pow_lt d0 hset
  have F3' : Fx SCr h h3 := F2'.trans (F3.fx.mono (fun o j q => Or.inl q))
  refine aJ_gen (R := fun o => OK o _) (fun k85 hk85 => ?_)
  refine aL1_run (R := fun o => OK o _) (fun n s1 h4 => ∃ j, j ≤ T 426 (enK T k i) ∧ n = T 426 (enK T k i) - j ∧ s1 = nI j ∧ Fx SCr h h4 ∧ h_iv h4 412 0 = nI 0 ∧ ∀ m, m < 4096 → h_iv h4 461 m = b2i (rcB (tyE T (enK T k i)) (Kc T) (plF T (T 413) k i) false (T 412 8) j m)) ⟨0, Nat.zero_le _, rfl, rfl, F3', by rw [F3.iv (by unfold JNx; omega)]; exact g2, v3⟩ (by omega) ?_
  rintro rec n s1 h4 ⟨j, hj, rfl, rfl, F4, g4, v4⟩ ih
  have S4 := F4.sh hS
  have z4 := z.fx F4 (fun o k q => SCr_no q)
  by_cases hlt : j < T 426 (enK T k i)
  · simp (maxSteps := 3000000) (disch := first | assumption | omega) only [m_X12_manned_L58, bO_v, bR_v, bX_l, bX_r, bC_l, bC_r, aLet_v, nI_add, pk_mul, dvI_n, rmI_n, iMax_n, iMin_n, zO_0, zO_1, li_0, li_1, li_2, li_3, li_4, li_5, li_6, li_7, li_8, li_9, li_10, li_12, li_14, li_15, li_16, li_18, li_19, li_20, li_22, li_23, li_24, li_26, li_29, li_30, li_31, li_32, li_36, li_38, li_48, li_50, li_57, li_58, li_59, li_60, li_63, li_97, li_99, li_120, li_122, li_144, li_168, li_194, li_240, li_255, li_284, li_299, li_603, li_999, li_1200, li_1440, li_4095, li_4096, li_6030, li_16384, li_20160, r_p426 S4, r_c426_al S4, z4.c426, nI_ltI, r_cM_gS S4, show T 434 (5 * k + i) = enK T k i from rfl]
    rw [if_pos hlt]
    refine ok_bR (r_joins S4 z4 hD he hlt hset2 (all := false) v4) (fun _ h5 hh => ?_)
    obtain ⟨F5, v5⟩ := hh
    exact ih _ _ _ (by omega) ⟨j + 1, hlt, rfl, rfl, F4.trans (F5.fx.mono (fun o k q => Or.inl q)), by rw [F5.iv (by unfold JNx; omega)]; exact g4, v5⟩
  · obtain rfl : j = T 426 (enK T k i) := by omega
    simp (maxSteps := 3000000) (disch := first | assumption | omega) only [m_X12_manned_L58, bO_v, bR_v, bX_l, bX_r, bC_l, bC_r, aLet_v, nI_add, pk_mul, dvI_n, rmI_n, iMax_n, iMin_n, zO_0, zO_1, li_0, li_1, li_2, li_3, li_4, li_5, li_6, li_7, li_8, li_9, li_10, li_12, li_14, li_15, li_16, li_18, li_19, li_20, li_22, li_23, li_24, li_26, li_29, li_30, li_31, li_32, li_36, li_38, li_48, li_50, li_57, li_58, li_59, li_60, li_63, li_97, li_99, li_120, li_122, li_144, li_168, li_194, li_240, li_255, li_284, li_299, li_603, li_999, li_1200, li_1440, li_4095, li_4096, li_6030, li_16384, li_20160, r_p426 S4, r_c426_al S4, z4.c426, nI_ltI, show T 434 (5 * k + i) = enK T k i from rfl]
    rw [if_neg hlt, hk85]
    simp only [bO_v, bR_v, bX_l, bX_r, bC_l, bC_r, aLet_v, nI_add, pk_mul, dvI_n, rmI_n, iMax_n, iMin_n, zO_0, zO_1, li_0, li_1, li_2, li_3, li_4, li_5, li_6, li_7, li_8, li_9, li_10, li_12, li_14, li_15, li_16, li_18, li_19, li_20, li_22, li_23, li_24, li_26, li_29, li_30, li_31, li_32, li_36, li_38, li_48, li_50, li_57, li_58, li_59, li_60, li_63, li_97, li_99, li_120, li_122, li_144, li_168, li_194, li_240, li_255, li_284, li_299, li_603, li_999, li_1200, li_1440, li_4095, li_4096, li_6030, li_16384, li_20160, aJ_v]
    refine aL2_run (R := fun o => OK o _) (fun n s1 s2 h5 => h5 = h4 ∧ ∃ c, c ≤ 4096 ∧ n = 4096 - c ∧ s2 = nI c ∧ s1 = nI (mxB (rcB (tyE T (enK T k i)) (Kc T) (plF T (T 413) k i) false (T 412 8) (T 426 (enK T k i))) c)) ⟨rfl, 0, Nat.zero_le _, rfl, rfl, rfl⟩ (by omega) ?_
    rintro rec n s1 s2 h5 ⟨rfl, c, hc, rfl, rfl, rfl⟩ ih
    have rkv := mxB_rk (t := tyE T (enK T k i)) (K := Kc T) (n := T 426 (enK T k i)) (fun j => ptyp_lt _) d0 hset
    generalize hf : rcB (tyE T (enK T k i)) (Kc T) (plF T (T 413) k i) false (T 412 8) (T 426 (enK T k i)) = f at *
    have mb : mxB f c ≤ 12 := by
      rcases mxB_in (f := f) c with q | ⟨m, q1, q2, q3⟩
      · omega
      · rw [q3]; exact fb_ct_le _ 12
    by_cases hlt2 : c < 4096
    · have sb : sz c ≤ 12 := fb_ct_le _ 12
      simp (maxSteps := 3000000) (disch := first | assumption | omega) only [m_X12_manned_L91, bO_v, bR_v, bX_l, bX_r, bC_l, bC_r, aLet_v, nI_add, pk_mul, dvI_n, rmI_n, iMax_n, iMin_n, zO_0, zO_1, li_0, li_1, li_2, li_3, li_4, li_5, li_6, li_7, li_8, li_9, li_10, li_12, li_14, li_15, li_16, li_18, li_19, li_20, li_22, li_23, li_24, li_26, li_29, li_30, li_31, li_32, li_36, li_38, li_48, li_50, li_57, li_58, li_59, li_60, li_63, li_97, li_99, li_120, li_122, li_144, li_168, li_194, li_240, li_255, li_284, li_299, li_603, li_999, li_1200, li_1440, li_4095, li_4096, li_6030, li_16384, li_20160, r_p461 S4, r_c461_al S4, v4 c hlt2, nI_ltI, nI_leI, b2i_0, r_many hlt2]
      rw [if_pos hlt2]
      refine aJ_gen (R := fun o => OK o _) (fun k129 hk129 => ?_)
      have K : ∀ v, v = mxB f (c + 1) → OK (k129 (nI v) h5) (fun r h1 => r = nI (rk (tyE T (enK T k i)) (Kc T) (T 426 (enK T k i)) (plF T (T 413) k i)) ∧ h_iv h1 412 0 = nI 0 ∧ Fx SCr h h1) := fun v hv => by
        rw [hk129]
        simp only [bO_v, bR_v, bX_l, bX_r, bC_l, bC_r, aLet_v, nI_add, pk_mul, dvI_n, rmI_n, iMax_n, iMin_n, zO_0, zO_1, li_0, li_1, li_2, li_3, li_4, li_5, li_6, li_7, li_8, li_9, li_10, li_12, li_14, li_15, li_16, li_18, li_19, li_20, li_22, li_23, li_24, li_26, li_29, li_30, li_31, li_32, li_36, li_38, li_48, li_50, li_57, li_58, li_59, li_60, li_63, li_97, li_99, li_120, li_122, li_144, li_168, li_194, li_240, li_255, li_284, li_299, li_603, li_999, li_1200, li_1440, li_4095, li_4096, li_6030, li_16384, li_20160]
        exact ih _ _ _ _ (by omega) ⟨rfl, c + 1, hlt2, rfl, rfl, by rw [hv]⟩
      refine aJ_gen (R := fun o => OK o _) (fun k127 hk127 => ?_)
      by_cases c1 : f c = false
      · rw [if_pos c1, hk127]
        exact K _ (by rw [mxB, if_neg (fun q => by rw [c1] at q; cases q.1)])
      · rw [if_neg c1]
        have t1 : f c = true := by simpa using c1
        by_cases c2 : sz c ≤ mxB f c
        · rw [if_pos c2, hk127]
          exact K _ (by rw [mxB, if_neg (fun q => by omega)])
        · rw [if_neg c2]
          exact K _ (by rw [mxB, if_pos ⟨t1, by omega⟩])
    · obtain rfl : c = 4096 := by omega
      simp (maxSteps := 3000000) (disch := first | assumption | omega) only [m_X12_manned_L91, bO_v, bR_v, bX_l, bX_r, bC_l, bC_r, aLet_v, nI_add, pk_mul, dvI_n, rmI_n, iMax_n, iMin_n, zO_0, zO_1, li_0, li_1, li_2, li_3, li_4, li_5, li_6, li_7, li_8, li_9, li_10, li_12, li_14, li_15, li_16, li_18, li_19, li_20, li_22, li_23, li_24, li_26, li_29, li_30, li_31, li_32, li_36, li_38, li_48, li_50, li_57, li_58, li_59, li_60, li_63, li_97, li_99, li_120, li_122, li_144, li_168, li_194, li_240, li_255, li_284, li_299, li_603, li_999, li_1200, li_1440, li_4095, li_4096, li_6030, li_16384, li_20160, nI_ltI]
      rw [if_neg hlt2]
      exact ok_ret ⟨by rw [rkv], g4, F4⟩
end
