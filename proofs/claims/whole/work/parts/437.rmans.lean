section
variable {h : aH} {T : Nat → Nat → Nat}
theorem rv_at {t : Nat → Nat} {n s : Nat} (h0 : 0 < s) (h1 : s ≤ n) : rvT t n (s - 1) = t (n - s) := by
  unfold rvT
  rw [show n - 1 - (s - 1) = n - s by omega]
/-- one set of the crew: can it man the last posts -/
theorem r_mansL135 (hS : Sh h) (z : RefR h T) (hD : PlD T) {e crew m : Nat} (he : e < T 412 10) (hl : crew < 2 ^ T 412 8) (hs : sz crew = T 426 e) (hm0 : 0 < m) (hm : m < 4096) {h1 : aH} (hF : Fr (fun o => o = 460) h h1) (hc : ∀ m', m' < m → h_iv h1 460 m' = b2i (cnB (rvT (tyE T e) (T 426 e)) (Kc T) (T 426 e) crew m')) (h0 : h_iv h1 460 m = nI 0) {k224 : aH → Option (Int32 × aH)} {R : Option (Int32 × aH) → Prop}
    (hk : ∀ h2, Fr (fun o => o = 460) h h2 → (∀ m', m' < m + 1 → h_iv h2 460 m' = b2i (cnB (rvT (tyE T e) (T 426 e)) (Kc T) (T 426 e) crew m')) → R (k224 h2)) : R (aL1 (m_X12_mans_L135 412 (nI e) (nI crew) (nI m) k224) FU (nI 0) h1) := by
  have d0 := hD.nP
  have d1 := hD.nE
  have d2 := hD.pst e he
  have hl2 := two_pow_lt d0 hl
  have hmc : m &&& crew < 2147483648 := Nat.lt_of_le_of_lt Nat.and_le_left (by omega)
  refine aL1_run (fun k s1 h2 => ∃ i, i ≤ T 412 8 ∧ k = T 412 8 - i ∧ s1 = nI i ∧ Fr (fun o => o = 460) h h2 ∧ (∀ m', m' < m → h_iv h2 460 m' = b2i (cnB (rvT (tyE T e) (T 426 e)) (Kc T) (T 426 e) crew m')) ∧ h_iv h2 460 m = b2i (decide (m &&& crew = m) && anyB (fun p => m.testBit p && (cnB (rvT (tyE T e) (T 426 e)) (Kc T) (T 426 e) crew (m ^^^ 2 ^ p) && (Kc T p).testBit (tyE T e (T 426 e - sz m)))) i)) ⟨0, Nat.zero_le _, rfl, rfl, hF, hc, by rw [h0]; simp [anyB]; rfl⟩ (by omega) ?_
  rintro rec k s1 h2 ⟨i, hi, rfl, rfl, hF2, hc2, hv⟩ ih
  have hS2 := hF2.sh hS
  have z2 := z.fr hF2 (fun o q1 q2 q3 q4 => by omega)
  have fin : (decide (m &&& crew = m) && anyB (fun p => m.testBit p && (cnB (rvT (tyE T e) (T 426 e)) (Kc T) (T 426 e) crew (m ^^^ 2 ^ p) && (Kc T p).testBit (tyE T e (T 426 e - sz m)))) (T 412 8)) = cnB (rvT (tyE T e) (T 426 e)) (Kc T) (T 426 e) crew m := by
    by_cases hsub : sub m crew
    · rw [decide_eq_true (land_sub.mpr hsub), Bool.true_and]
      have hp0 := sz_pos hm (by omega)
      have hle := sz_sub hsub
      rw [hs] at hle
      have et := rv_at (t := tyE T e) hp0 hle
      apply Bool.eq_iff_iff.mpr
      rw [anyB_t, cnB_t]
      constructor
      · rintro ⟨p, p1, p2⟩
        rw [Bool.and_eq_true, Bool.and_eq_true, cnB_t] at p2
        obtain ⟨p3, ⟨p4, p5, p6⟩, p7⟩ := p2
        have p8 := sz_off (show p < 12 by omega) p3
        refine ⟨hsub, hle, ?_⟩
        rw [← et, ← p8] at p7
        rw [← p8]
        exact ⟨p, by omega, p3, p7, p6⟩
      · rintro ⟨-, -, q3⟩
        obtain ⟨u, hu⟩ : ∃ u, sz m = u + 1 := ⟨sz m - 1, by omega⟩
        rw [hu] at q3
        obtain ⟨p, p1, p2, p3, p4⟩ := q3
        have p8 := sz_off p1 p2
        refine ⟨p, bit_lt hl (hsub p p2), ?_⟩
        rw [Bool.and_eq_true, Bool.and_eq_true, cnB_t]
        rw [hu] at et
        refine ⟨p2, ⟨fun q hq => ?_, by omega, by rw [show sz (m ^^^ 2 ^ p) = u by omega]; exact p4⟩, by rw [hu, ← et]; exact p3⟩
        by_cases e9 : q = p
        · rw [e9, tb_xe, p2] at hq; cases hq
        · rw [tb_xn e9] at hq; exact hsub q hq
    · rw [decide_eq_false (fun q => hsub (land_sub.mp q)), Bool.false_and]
      cases c : cnB (rvT (tyE T e) (T 426 e)) (Kc T) (T 426 e) crew m
      · rfl
      · exact absurd (cnB_t.mp c).1 hsub
  have done : (¬ m &&& crew = m ∨ i = T 412 8) → R (k224 h2) := fun hh => by
    refine hk h2 hF2 (fun m' hm' => ?_)
    by_cases c : m' = m
    · rw [c, hv, ← fin]
      rcases hh with hh | hh
      · rw [decide_eq_false hh, Bool.false_and, Bool.false_and]
      · rw [hh]
    · exact hc2 m' (by omega)
  by_cases hlt : i < T 412 8
  · simp (maxSteps := 3000000) (disch := first | assumption | omega) only [m_X12_mans_L135, bO_v, bR_v, bX_l, bX_r, bC_l, bC_r, aJ_v, aLet_v, nI_add, pk_mul, dvI_n, rmI_n, iMax_n, iMin_n, zO_0, zO_1, li_0, li_1, li_2, li_3, li_4, li_5, li_6, li_7, li_8, li_9, li_10, li_12, li_14, li_15, li_16, li_18, li_19, li_20, li_22, li_23, li_24, li_26, li_29, li_30, li_31, li_32, li_36, li_38, li_48, li_50, li_57, li_58, li_59, li_60, li_63, li_97, li_99, li_120, li_122, li_144, li_168, li_194, li_240, li_255, li_284, li_299, li_603, li_999, li_1200, li_1440, li_4095, li_4096, li_6030, li_16384, li_20160, r_cM_gi hS2, z2.f8, nI_ltI, fa_and m, nI_eq]
    rw [if_pos hlt]
    by_cases c1 : m &&& crew = m
    · rw [if_pos c1]
      have bq : (((nI m >>> (nI i &&& nI 31)) &&& nI 1 = nI 0) ↔ m.testBit i = false) := bit_n (by omega) (by omega)
      rw [decide_eq_true c1, Bool.true_and] at hv
      have hsub := land_sub.mp c1
      have hp0 := sz_pos hm (by omega)
      have hle := sz_sub hsub
      rw [hs] at hle
      have next : ∀ (b : Bool) (y : Int32), y = b2i b → (m.testBit i && (cnB (rvT (tyE T e) (T 426 e)) (Kc T) (T 426 e) crew (m ^^^ 2 ^ i) && (Kc T i).testBit (tyE T e (T 426 e - sz m)))) = b → R (rec (nI (i + 1)) (h_si h2 460 m (h_iv h2 460 m ||| y))) := fun b y hy hb => by
        refine ih _ _ _ (by omega) ⟨i + 1, hlt, rfl, rfl, hF2.trans (Fr.si rfl), fun m' hm' => ?_, ?_⟩
        · rw [si_ne (by omega)]; exact hc2 m' hm'
        · rw [si_at, hv, hy, b2i_or, decide_eq_true c1, Bool.true_and, anyB, hb]
      have o1 : ∀ b : Bool, (h_iv h2 460 m ||| b2i b = 0 ∨ h_iv h2 460 m ||| b2i b = 1) := fun b => by
        rw [hv, b2i_or]
        cases (anyB (fun p => m.testBit p && (cnB (rvT (tyE T e) (T 426 e)) (Kc T) (T 426 e) crew (m ^^^ 2 ^ p) && (Kc T p).testBit (tyE T e (T 426 e - sz m)))) i || b)
        · exact Or.inl rfl
        · exact Or.inr rfl
      have w0 : asz h2 460 (nI m) (h_iv h2 460 m ||| nI 0) = some (h_si h2 460 m (h_iv h2 460 m ||| nI 0)) := r_c460_as hS2 hm (o1 false)
      have w1 : asz h2 460 (nI m) (h_iv h2 460 m ||| nI 1) = some (h_si h2 460 m (h_iv h2 460 m ||| nI 1)) := r_c460_as hS2 hm (o1 true)
      simp (maxSteps := 3000000) (disch := first | assumption | omega) only [bO_v, bR_v, bX_l, bX_r, bC_l, bC_r, aJ_v, aLet_v, nI_add, pk_mul, dvI_n, rmI_n, iMax_n, iMin_n, zO_0, zO_1, li_0, li_1, li_2, li_3, li_4, li_5, li_6, li_7, li_8, li_9, li_10, li_12, li_14, li_15, li_16, li_18, li_19, li_20, li_22, li_23, li_24, li_26, li_29, li_30, li_31, li_32, li_36, li_38, li_48, li_50, li_57, li_58, li_59, li_60, li_63, li_97, li_99, li_120, li_122, li_144, li_168, li_194, li_240, li_255, li_284, li_299, li_603, li_999, li_1200, li_1440, li_4095, li_4096, li_6030, li_16384, li_20160, r_p460 hS2, r_c460_al hS2, w0, w1]
      cases c2 : m.testBit i
      · rw [if_pos (bq.mpr c2)]
        exact next false _ rfl (by rw [c2]; rfl)
      · rw [if_neg (fun x => by rw [bq.mp x] at c2; cases c2)]
        have xl := x_lt c2
        have ex : nI m ^^^ (nI 1 <<< (nI i &&& nI 31)) = nI (m ^^^ 2 ^ i) := by rw [shl1_n (by omega), fb_xorI]
        have hv2 := hc2 _ xl
        have hxl : m ^^^ 2 ^ i < 4096 := by omega
        simp (maxSteps := 3000000) (disch := first | assumption | omega) only [ex, bO_v, bR_v, bX_l, bX_r, bC_l, bC_r, aJ_v, aLet_v, nI_add, pk_mul, dvI_n, rmI_n, iMax_n, iMin_n, zO_0, zO_1, li_0, li_1, li_2, li_3, li_4, li_5, li_6, li_7, li_8, li_9, li_10, li_12, li_14, li_15, li_16, li_18, li_19, li_20, li_22, li_23, li_24, li_26, li_29, li_30, li_31, li_32, li_36, li_38, li_48, li_50, li_57, li_58, li_59, li_60, li_63, li_97, li_99, li_120, li_122, li_144, li_168, li_194, li_240, li_255, li_284, li_299, li_603, li_999, li_1200, li_1440, li_4095, li_4096, li_6030, li_16384, li_20160, r_c460_al hS2, hv2, b2i_0]
        by_cases c3 : cnB (rvT (tyE T e) (T 426 e)) (Kc T) (T 426 e) crew (m ^^^ 2 ^ i) = false
        · rw [if_pos c3]
          exact next false _ rfl (by rw [c2, c3]; rfl)
        · rw [if_neg c3]
          have t3 : cnB (rvT (tyE T e) (T 426 e)) (Kc T) (T 426 e) crew (m ^^^ 2 ^ i) = true := by simpa using c3
          have fi : m_X12_fits 412 (nI i) (nI e) (nI (T 426 e - sz m)) h2 = some (b2i ((Kc T i).testBit (tyE T e (T 426 e - sz m))), h2) := r_fits hS2 (fun o ho k => by rcases ho with rfl | rfl <;> first | exact z2.c427 k | exact z2.c421 k) hD hlt he (show T 426 e - sz m < T 426 e by omega)
          simp (maxSteps := 3000000) (disch := first | assumption | omega) only [bO_v, bR_v, bX_l, bX_r, bC_l, bC_r, aJ_v, aLet_v, nI_add, pk_mul, dvI_n, rmI_n, iMax_n, iMin_n, zO_0, zO_1, li_0, li_1, li_2, li_3, li_4, li_5, li_6, li_7, li_8, li_9, li_10, li_12, li_14, li_15, li_16, li_18, li_19, li_20, li_22, li_23, li_24, li_26, li_29, li_30, li_31, li_32, li_36, li_38, li_48, li_50, li_57, li_58, li_59, li_60, li_63, li_97, li_99, li_120, li_122, li_144, li_168, li_194, li_240, li_255, li_284, li_299, li_603, li_999, li_1200, li_1440, li_4095, li_4096, li_6030, li_16384, li_20160, r_p426 hS2, r_c426_al hS2, z2.c426, r_many hm, pk_sub hle, r_cM_gS hS2, fi, b2i_0, w0, w1]
          by_cases c4 : (Kc T i).testBit (tyE T e (T 426 e - sz m)) = false
          · rw [if_pos c4]
            exact next false _ rfl (by rw [c2, t3, c4]; rfl)
          · rw [if_neg c4]
            exact next true _ rfl (by rw [c2, t3, show (Kc T i).testBit (tyE T e (T 426 e - sz m)) = true by simpa using c4]; rfl)
    · rw [if_neg c1]
      exact done (Or.inl c1)
  · obtain rfl : i = T 412 8 := by omega
    simp (maxSteps := 3000000) (disch := first | assumption | omega) only [m_X12_mans_L135, bO_v, bR_v, bX_l, bX_r, bC_l, bC_r, aJ_v, aLet_v, nI_add, pk_mul, dvI_n, rmI_n, iMax_n, iMin_n, zO_0, zO_1, li_0, li_1, li_2, li_3, li_4, li_5, li_6, li_7, li_8, li_9, li_10, li_12, li_14, li_15, li_16, li_18, li_19, li_20, li_22, li_23, li_24, li_26, li_29, li_30, li_31, li_32, li_36, li_38, li_48, li_50, li_57, li_58, li_59, li_60, li_63, li_97, li_99, li_120, li_122, li_144, li_168, li_194, li_240, li_255, li_284, li_299, li_603, li_999, li_1200, li_1440, li_4095, li_4096, li_6030, li_16384, li_20160, r_cM_gi hS2, z2.f8, nI_ltI]
    rw [if_neg hlt]
    exact done (Or.inr rfl)
/-- the lowest one for each post up to w -/
theorem r_mansL240 (hS : Sh h) (z : RefR h T) (hD : PlD T) {e crew w : Nat} (he : e < T 412 10) (hw : w < T 426 e) (hl : crew < 2 ^ T 412 8) (hs : sz crew = T 426 e) (hM : Me (tyE T e) (Kc T) (T 426 e) crew) (hc : ∀ m', m' < 4096 → h_iv h 460 m' = b2i (cnB (rvT (tyE T e) (T 426 e)) (Kc T) (T 426 e) crew m')) {k342 : Int32 → aH → Option (Int32 × aH)} {R : Option (Int32 × aH) → Prop} {x : Int32}
    (hk : R (k342 (nI (pkP (tyE T e) (Kc T) (T 426 e) (T 412 8) crew w)) h)) : R (aL3 (m_X12_mans_L240 412 (nI w) (nI e) k342) FU (nI crew) x (nI 0) h) := by
  have d0 := hD.nP
  have d1 := hD.nE
  have d2 := hD.pst e he
  have hty : ∀ k, tyE T e k < 5 := fun k => ptyp_lt _
  refine aL3_run (fun n s1 s2 s3 h2 => h2 = h ∧ ∃ j, j ≤ w + 1 ∧ n = w + 1 - j ∧ s3 = nI j ∧ s1 = nI (pkL (tyE T e) (Kc T) (T 426 e) (T 412 8) crew j) ∧ (j = 0 ∨ s2 = nI (pkP (tyE T e) (Kc T) (T 426 e) (T 412 8) crew (j - 1)))) ⟨rfl, 0, Nat.zero_le _, rfl, rfl, rfl, Or.inl rfl⟩ (by omega) ?_
  rintro rec n s1 s2 s3 h2 ⟨rfl, j, hj, rfl, rfl, rfl, hcc⟩ ih
  by_cases hlt : j ≤ w
  · have hjn : j < T 426 e := by omega
    obtain ⟨i1, i2, i3, i4⟩ := pk_inv hty d0 hl hs hM (j := j) (by omega)
    obtain ⟨p1, p2, p3, p4, p5⟩ := pk_step hty d0 hjn i1 i2 i3
    have i5 := two_pow_lt d0 i1
    have ePk : fa_first (chB (tyE T e) (Kc T) (T 426 e) (pkL (tyE T e) (Kc T) (T 426 e) (T 412 8) crew j) j) (T 412 8) = pkP (tyE T e) (Kc T) (T 426 e) (T 412 8) crew j := rfl
    have eL : pkL (tyE T e) (Kc T) (T 426 e) (T 412 8) crew (j + 1) = pkL (tyE T e) (Kc T) (T 426 e) (T 412 8) crew j ^^^ 2 ^ pkP (tyE T e) (Kc T) (T 426 e) (T 412 8) crew j := rfl
    generalize pkL (tyE T e) (Kc T) (T 426 e) (T 412 8) crew j = left at *
    rw [ePk] at p1 p2
    generalize hFF : pkP (tyE T e) (Kc T) (T 426 e) (T 412 8) crew j = F at *
    have nm : nI (T 412 8) - nI 1 = nI (T 412 8) + -nI 1 := Int32.sub_eq_add_neg ..
    simp (maxSteps := 3000000) (disch := first | assumption | omega) only [m_X12_mans_L240, bO_v, bR_v, bX_l, bX_r, bC_l, bC_r, aLet_v, nI_add, pk_mul, dvI_n, rmI_n, iMax_n, iMin_n, zO_0, zO_1, li_0, li_1, li_2, li_3, li_4, li_5, li_6, li_7, li_8, li_9, li_10, li_12, li_14, li_15, li_16, li_18, li_19, li_20, li_22, li_23, li_24, li_26, li_29, li_30, li_31, li_32, li_36, li_38, li_48, li_50, li_57, li_58, li_59, li_60, li_63, li_97, li_99, li_120, li_122, li_144, li_168, li_194, li_240, li_255, li_284, li_299, li_603, li_999, li_1200, li_1440, li_4095, li_4096, li_6030, li_16384, li_20160, r_cM_gi hS, z.f8, nI_leI, nm]
    rw [if_pos hlt]
    refine aJ_gen (fun k327 hk327 => ?_)
    refine aL2_run (fun n s1 s2 h3 => h3 = h2 ∧ ∃ c, c ≤ T 412 8 ∧ n = c ∧ s2 = nI c + -nI 1 ∧ (c ≤ F → s1 = nI F)) ⟨rfl, T 412 8, Nat.le_refl _, rfl, rfl, fun q => by omega⟩ (by omega) ?_
    rintro rec2 n s1 s2 h3 ⟨rfl, c, hc2, rfl, rfl, hs1⟩ ih2
    rcases Nat.eq_zero_or_pos n with rfl | hpos
    · have neg : nI 0 + -nI 1 < nI 0 := by decide
      have e1 := hs1 (Nat.zero_le _)
      simp only [m_X12_mans_L257, bO_v, bR_v, bX_l, bX_r, bC_l, bC_r, aLet_v, nI_add, pk_mul, dvI_n, rmI_n, iMax_n, iMin_n, zO_0, zO_1, li_0, li_1, li_2, li_3, li_4, li_5, li_6, li_7, li_8, li_9, li_10, li_12, li_14, li_15, li_16, li_18, li_19, li_20, li_22, li_23, li_24, li_26, li_29, li_30, li_31, li_32, li_36, li_38, li_48, li_50, li_57, li_58, li_59, li_60, li_63, li_97, li_99, li_120, li_122, li_144, li_168, li_194, li_240, li_255, li_284, li_299, li_603, li_999, li_1200, li_1440, li_4095, li_4096, li_6030, li_16384, li_20160]
      rw [if_pos neg, hk327, e1]
      simp (maxSteps := 3000000) (disch := first | assumption | omega) only [bO_v, bR_v, bX_l, bX_r, bC_l, bC_r, aLet_v, nI_add, pk_mul, dvI_n, rmI_n, iMax_n, iMin_n, zO_0, zO_1, li_0, li_1, li_2, li_3, li_4, li_5, li_6, li_7, li_8, li_9, li_10, li_12, li_14, li_15, li_16, li_18, li_19, li_20, li_22, li_23, li_24, li_26, li_29, li_30, li_31, li_32, li_36, li_38, li_48, li_50, li_57, li_58, li_59, li_60, li_63, li_97, li_99, li_120, li_122, li_144, li_168, li_194, li_240, li_255, li_284, li_299, li_603, li_999, li_1200, li_1440, li_4095, li_4096, li_6030, li_16384, li_20160, shl1_n (show F < 31 by omega), fb_xorI left]
      exact ih _ _ _ _ _ (by omega) ⟨rfl, j + 1, by omega, rfl, rfl, by rw [eL], Or.inr (by rw [← hFF]; rfl)⟩
    · obtain ⟨c, rfl⟩ : ∃ c, n = c + 1 := ⟨n - 1, by omega⟩
      have hcN : c < T 412 8 := by omega
      have bq : (((nI left >>> (nI c &&& nI 31)) &&& nI 1 = nI 0) ↔ left.testBit c = false) := bit_n (by omega) (by omega)
      have fi : m_X12_fits 412 (nI c) (nI e) (nI j) h3 = some (b2i ((Kc T c).testBit (tyE T e j)), h3) := r_fits hS (fun o ho k => by rcases ho with rfl | rfl <;> first | exact z.c427 k | exact z.c421 k) hD hcN he hjn
      have next : ∀ b, chB (tyE T e) (Kc T) (T 426 e) left j c = b → R (rec2 (if b = false then s1 else nI c) (nI c + -nI 1) h3) := fun b hb => by
        refine ih2 _ _ _ _ (Nat.lt_succ_self c) ⟨rfl, c, by omega, rfl, rfl, fun hcF => ?_⟩
        by_cases e9 : c = F
        · rw [← e9, hb] at p2
          rw [if_neg (by rw [p2]; decide), e9]
        · have := fa_first_no (chB (tyE T e) (Kc T) (T 426 e) left j) (T 412 8) c (by rw [ePk]; omega)
          rw [hb] at this
          rw [if_pos this]
          exact hs1 (by omega)
      simp (maxSteps := 3000000) (disch := first | assumption | omega) only [m_X12_mans_L257, bO_v, bR_v, bX_l, bX_r, bC_l, bC_r, aJ_v, aLet_v, nI_add, pk_mul, dvI_n, rmI_n, iMax_n, iMin_n, zO_0, zO_1, li_0, li_1, li_2, li_3, li_4, li_5, li_6, li_7, li_8, li_9, li_10, li_12, li_14, li_15, li_16, li_18, li_19, li_20, li_22, li_23, li_24, li_26, li_29, li_30, li_31, li_32, li_36, li_38, li_48, li_50, li_57, li_58, li_59, li_60, li_63, li_97, li_99, li_120, li_122, li_144, li_168, li_194, li_240, li_255, li_284, li_299, li_603, li_999, li_1200, li_1440, li_4095, li_4096, li_6030, li_16384, li_20160, m1_n, nI_ltI, r_cM_gS hS, fi, b2i_0]
      rw [if_neg (Nat.not_lt_zero c)]
      cases c1 : left.testBit c
      · rw [if_pos (bq.mpr c1), if_pos trivial]
        exact next false (by unfold chB; rw [c1]; rfl)
      · rw [if_neg (fun x => by rw [bq.mp x] at c1; cases c1)]
        by_cases c2 : (Kc T c).testBit (tyE T e j) = false
        · rw [if_pos c2, if_pos trivial]
          exact next false (by unfold chB; rw [c1, c2]; rfl)
        · rw [if_neg c2]
          have t2 : (Kc T c).testBit (tyE T e j) = true := by simpa using c2
          have xl := x_lt c1
          have ex : nI left ^^^ (nI 1 <<< (nI c &&& nI 31)) = nI (left ^^^ 2 ^ c) := by rw [shl1_n (by omega), fb_xorI]
          have hv := hc (left ^^^ 2 ^ c) (by omega)
          have p8 := sz_off (show c < 12 by omega) c1
          have ech : chB (tyE T e) (Kc T) (T 426 e) left j c = cnB (rvT (tyE T e) (T 426 e)) (Kc T) (T 426 e) crew (left ^^^ 2 ^ c) := by
            apply Bool.eq_iff_iff.mpr
            rw [chB_t hty hjn i5 (by omega) i2, cnB_t]
            constructor
            · rintro ⟨-, -, q3⟩
              exact ⟨sub_tr (x_sub c1) i4, by omega, by rw [show sz (left ^^^ 2 ^ c) = T 426 e - 1 - j by omega]; exact q3⟩
            · rintro ⟨-, -, q3⟩
              exact ⟨c1, t2, by rw [show T 426 e - 1 - j = sz (left ^^^ 2 ^ c) by omega]; exact q3⟩
          have l12 : left ^^^ 2 ^ c < 4096 := by omega
          simp (maxSteps := 3000000) (disch := first | assumption | omega) only [ex, bO_v, bR_v, bX_l, bX_r, bC_l, bC_r, aJ_v, aLet_v, nI_add, pk_mul, dvI_n, rmI_n, iMax_n, iMin_n, zO_0, zO_1, li_0, li_1, li_2, li_3, li_4, li_5, li_6, li_7, li_8, li_9, li_10, li_12, li_14, li_15, li_16, li_18, li_19, li_20, li_22, li_23, li_24, li_26, li_29, li_30, li_31, li_32, li_36, li_38, li_48, li_50, li_57, li_58, li_59, li_60, li_63, li_97, li_99, li_120, li_122, li_144, li_168, li_194, li_240, li_255, li_284, li_299, li_603, li_999, li_1200, li_1440, li_4095, li_4096, li_6030, li_16384, li_20160, r_p460 hS, r_c460_al hS, hv, b2i_0]
          rw [← ech]
          have nx := next _ rfl
          cases c3 : chB (tyE T e) (Kc T) (T 426 e) left j c
          · rw [c3] at nx
            exact nx
          · rw [c3] at nx
            exact nx
  · obtain rfl : j = w + 1 := by omega
    simp (maxSteps := 3000000) (disch := first | assumption | omega) only [m_X12_mans_L240, bO_v, bR_v, bX_l, bX_r, bC_l, bC_r, aLet_v, nI_add, pk_mul, dvI_n, rmI_n, iMax_n, iMin_n, zO_0, zO_1, li_0, li_1, li_2, li_3, li_4, li_5, li_6, li_7, li_8, li_9, li_10, li_12, li_14, li_15, li_16, li_18, li_19, li_20, li_22, li_23, li_24, li_26, li_29, li_30, li_31, li_32, li_36, li_38, li_48, li_50, li_57, li_58, li_59, li_60, li_63, li_97, li_99, li_120, li_122, li_144, li_168, li_194, li_240, li_255, li_284, li_299, li_603, li_999, li_1200, li_1440, li_4095, li_4096, li_6030, li_16384, li_20160, nI_leI]
    rw [if_neg hlt]
    rcases hcc with hcc | hcc
    · omega
    · rw [hcc]; exact hk
end
