/-! changes are kept, and undone -/
theorem sr_at {h : aH} {o k x : Nat} : h_rv (h_sr h o k x) o k = x := by
  show up2 _ _ _ _ _ _ = _
  exact if_pos ⟨rfl, rfl⟩
/-- the same plan in numbers -/
def Pe (T T' : Nat → Nat → Nat) : Prop := T' 412 8 = T 412 8 ∧ T' 412 9 = T 412 9 ∧ T' 412 10 = T 412 10 ∧ T' 412 11 = T 412 11 ∧ ∀ o, 418 ≤ o → o < 435 → T' o = T o
theorem Pe.pld {T T' : Nat → Nat → Nat} (e : Pe T T') (x : PlD T) : PlD T' := by
  obtain ⟨e8, e9, e10, e11, eo⟩ := e
  have p418 : T' 418 = T 418 := eo 418 (by decide) (by decide)
  have p419 : T' 419 = T 419 := eo 419 (by decide) (by decide)
  have p420 : T' 420 = T 420 := eo 420 (by decide) (by decide)
  have p421 : T' 421 = T 421 := eo 421 (by decide) (by decide)
  have p422 : T' 422 = T 422 := eo 422 (by decide) (by decide)
  have p423 : T' 423 = T 423 := eo 423 (by decide) (by decide)
  have p424 : T' 424 = T 424 := eo 424 (by decide) (by decide)
  have p425 : T' 425 = T 425 := eo 425 (by decide) (by decide)
  have p426 : T' 426 = T 426 := eo 426 (by decide) (by decide)
  have p427 : T' 427 = T 427 := eo 427 (by decide) (by decide)
  have p428 : T' 428 = T 428 := eo 428 (by decide) (by decide)
  have p429 : T' 429 = T 429 := eo 429 (by decide) (by decide)
  have p430 : T' 430 = T 430 := eo 430 (by decide) (by decide)
  have p431 : T' 431 = T 431 := eo 431 (by decide) (by decide)
  have p432 : T' 432 = T 432 := eo 432 (by decide) (by decide)
  have p433 : T' 433 = T 433 := eo 433 (by decide) (by decide)
  have p434 : T' 434 = T 434 := eo 434 (by decide) (by decide)
  unfold PlD at x ⊢
  simp only [e8, e9, e10, e11, p418, p419, p420, p421, p422, p423, p424, p425, p426, p427, p428, p429, p430, p431, p432, p433, p434]
  exact x
theorem Pe.plr {T T' : Nat → Nat → Nat} (e : Pe T T') {h : aH} {P : Nat} (x : PlR h P T) : PlR h P T' := by
  obtain ⟨e8, e9, e10, e11, eo⟩ := e
  have p418 : T' 418 = T 418 := eo 418 (by decide) (by decide)
  have p419 : T' 419 = T 419 := eo 419 (by decide) (by decide)
  have p420 : T' 420 = T 420 := eo 420 (by decide) (by decide)
  have p421 : T' 421 = T 421 := eo 421 (by decide) (by decide)
  have p422 : T' 422 = T 422 := eo 422 (by decide) (by decide)
  have p423 : T' 423 = T 423 := eo 423 (by decide) (by decide)
  have p424 : T' 424 = T 424 := eo 424 (by decide) (by decide)
  have p425 : T' 425 = T 425 := eo 425 (by decide) (by decide)
  have p426 : T' 426 = T 426 := eo 426 (by decide) (by decide)
  have p427 : T' 427 = T 427 := eo 427 (by decide) (by decide)
  have p428 : T' 428 = T 428 := eo 428 (by decide) (by decide)
  have p429 : T' 429 = T 429 := eo 429 (by decide) (by decide)
  have p430 : T' 430 = T 430 := eo 430 (by decide) (by decide)
  have p431 : T' 431 = T 431 := eo 431 (by decide) (by decide)
  have p432 : T' 432 = T 432 := eo 432 (by decide) (by decide)
  have p433 : T' 433 = T 433 := eo 433 (by decide) (by decide)
  have p434 : T' 434 = T 434 := eo 434 (by decide) (by decide)
  unfold PlR dmd at x ⊢
  simp only [e8, e9, e10, e11, p418, p419, p420, p421, p422, p423, p424, p425, p426, p427, p428, p429, p430, p431, p432, p433, p434]
  exact x
theorem Pe.rwd {T T' : Nat → Nat → Nat} (e : Pe T T') {S : Nat → Nat} (x : RwD T S) : RwD T' S := by
  obtain ⟨e8, e9, e10, e11, eo⟩ := e
  have p418 : T' 418 = T 418 := eo 418 (by decide) (by decide)
  have p419 : T' 419 = T 419 := eo 419 (by decide) (by decide)
  have p420 : T' 420 = T 420 := eo 420 (by decide) (by decide)
  have p421 : T' 421 = T 421 := eo 421 (by decide) (by decide)
  have p422 : T' 422 = T 422 := eo 422 (by decide) (by decide)
  have p423 : T' 423 = T 423 := eo 423 (by decide) (by decide)
  have p424 : T' 424 = T 424 := eo 424 (by decide) (by decide)
  have p425 : T' 425 = T 425 := eo 425 (by decide) (by decide)
  have p426 : T' 426 = T 426 := eo 426 (by decide) (by decide)
  have p427 : T' 427 = T 427 := eo 427 (by decide) (by decide)
  have p428 : T' 428 = T 428 := eo 428 (by decide) (by decide)
  have p429 : T' 429 = T 429 := eo 429 (by decide) (by decide)
  have p430 : T' 430 = T 430 := eo 430 (by decide) (by decide)
  have p431 : T' 431 = T 431 := eo 431 (by decide) (by decide)
  have p432 : T' 432 = T 432 := eo 432 (by decide) (by decide)
  have p433 : T' 433 = T 433 := eo 433 (by decide) (by decide)
  have p434 : T' 434 = T 434 := eo 434 (by decide) (by decide)
  unfold RwD at x ⊢
  simp only [e8, e9, e10, e11, p418, p419, p420, p421, p422, p423, p424, p425, p426, p427, p428, p429, p430, p431, p432, p433, p434]
  exact x
theorem Pe.str {T T' : Nat → Nat → Nat} (e : Pe T T') {h : aH} {a P : Nat} {S : Nat → Nat} (x : StR h a P T S) : StR h a P T' S := by
  obtain ⟨e8, e9, e10, e11, eo⟩ := e
  have p418 : T' 418 = T 418 := eo 418 (by decide) (by decide)
  have p419 : T' 419 = T 419 := eo 419 (by decide) (by decide)
  have p420 : T' 420 = T 420 := eo 420 (by decide) (by decide)
  have p421 : T' 421 = T 421 := eo 421 (by decide) (by decide)
  have p422 : T' 422 = T 422 := eo 422 (by decide) (by decide)
  have p423 : T' 423 = T 423 := eo 423 (by decide) (by decide)
  have p424 : T' 424 = T 424 := eo 424 (by decide) (by decide)
  have p425 : T' 425 = T 425 := eo 425 (by decide) (by decide)
  have p426 : T' 426 = T 426 := eo 426 (by decide) (by decide)
  have p427 : T' 427 = T 427 := eo 427 (by decide) (by decide)
  have p428 : T' 428 = T 428 := eo 428 (by decide) (by decide)
  have p429 : T' 429 = T 429 := eo 429 (by decide) (by decide)
  have p430 : T' 430 = T 430 := eo 430 (by decide) (by decide)
  have p431 : T' 431 = T 431 := eo 431 (by decide) (by decide)
  have p432 : T' 432 = T 432 := eo 432 (by decide) (by decide)
  have p433 : T' 433 = T 433 := eo 433 (by decide) (by decide)
  have p434 : T' 434 = T 434 := eo 434 (by decide) (by decide)
  unfold StR at x ⊢
  simp only [e8, e9, e10, e11, p418, p419, p420, p421, p422, p423, p424, p425, p426, p427, p428, p429, p430, p431, p432, p433, p434]
  exact x
theorem Pe.nm {T T' : Nat → Nat → Nat} (e : Pe T T') (s : Nat) : nmN T' s = nmN T s := by
  obtain ⟨e8, e9, e10, e11, -⟩ := e
  unfold nmN
  rw [e8, e9, e10, e11]
theorem Pe.rwb {T T' : Nat → Nat → Nat} (e : Pe T T') {S : Nat → Nat} (x : RwB T S) : RwB T' S := by
  refine ⟨e.rwd x.1, ?_, x.2.2⟩
  rw [e.1]; exact x.2.1
theorem Pe.setW {T T' : Nat → Nat → Nat} (e : Pe T T') (S : Nat → Nat) : Pe T (setW T' S) := ⟨(congrFun (setW_n (by decide)) _).trans e.1, (congrFun (setW_n (by decide)) _).trans e.2.1, (congrFun (setW_n (by decide)) _).trans e.2.2.1, (congrFun (setW_n (by decide)) _).trans e.2.2.2.1, fun o h1 h2 => (setW_n (by omega)).trans (e.2.2.2.2 o h1 h2)⟩
/-- the present row is kept -/
def kpT (T : Nat → Nat → Nat) : Nat → Nat → Nat := fun o => if o = 414 then (fun k => if T 412 6 = 10 then (if k < 5427 then T 414 (k + 603) else if k < 6030 then T 413 (k - 5427) else T 414 k) else (if 603 * T 412 6 ≤ k ∧ k < 603 * T 412 6 + 603 then T 413 (k - 603 * T 412 6) else T 414 k)) else if o = 412 then (fun k => if k = 6 then (if T 412 6 = 10 then 10 else T 412 6 + 1) else T 412 k) else T o
section
variable {T : Nat → Nat → Nat}
theorem kpT_o {o : Nat} (h1 : o ≠ 414) (h2 : o ≠ 412) : kpT T o = T o := by
  unfold kpT
  rw [if_neg h1, if_neg h2]
theorem kpT_f {k : Nat} (h1 : k ≠ 6) : kpT T 412 k = T 412 k := by
  unfold kpT
  rw [if_neg (by decide), if_pos rfl]
  exact if_neg h1
theorem kpT_6 : kpT T 412 6 = if T 412 6 = 10 then 10 else T 412 6 + 1 := by
  unfold kpT
  rw [if_neg (by decide), if_pos rfl]
  exact if_pos rfl
theorem kpT_4 {k : Nat} : kpT T 414 k = if T 412 6 = 10 then (if k < 5427 then T 414 (k + 603) else if k < 6030 then T 413 (k - 5427) else T 414 k) else (if 603 * T 412 6 ≤ k ∧ k < 603 * T 412 6 + 603 then T 413 (k - 603 * T 412 6) else T 414 k) := by
  unfold kpT
  rw [if_pos rfl]
theorem kpT_pe : Pe T (kpT T) := ⟨kpT_f (by decide), kpT_f (by decide), kpT_f (by decide), kpT_f (by decide), fun o h1 h2 => kpT_o (by omega) (by omega)⟩
/-- the rows that are kept then -/
theorem kpT_old {i : Nat} (hU : T 412 6 ≤ 10) (hi : i < T 412 6) (h10 : T 412 6 ≠ 10) : rw4 (kpT T) 414 i = rw4 T 414 i := funext fun j => by
  unfold rw4
  by_cases c : j < 603
  · rw [if_pos c, if_pos c, kpT_4, if_neg h10, if_neg (by omega)]
  · rw [if_neg c, if_neg c]
theorem kpT_sh {i : Nat} (hi : i < 9) (h10 : T 412 6 = 10) : rw4 (kpT T) 414 i = rw4 T 414 (i + 1) := funext fun j => by
  unfold rw4
  by_cases c : j < 603
  · rw [if_pos c, if_pos c, kpT_4, if_pos h10, if_pos (by omega), show 603 * i + j + 603 = 603 * (i + 1) + j by omega]
  · rw [if_neg c, if_neg c]
theorem kpT_new {i j : Nat} (hU : T 412 6 ≤ 10) (hi : i = if T 412 6 = 10 then 9 else T 412 6) (hj : j < 603) : rw4 (kpT T) 414 i j = T 413 j := by
  unfold rw4
  rw [if_pos hj, kpT_4]
  by_cases c : T 412 6 = 10
  · rw [if_pos c] at hi
    rw [if_pos c, if_neg (by omega), if_pos (by omega), show 603 * i + j - 5427 = j by omega]
  · rw [if_neg c] at hi
    rw [if_neg c, hi, if_pos (by omega), show 603 * T 412 6 + j - 603 * T 412 6 = j by omega]
/-- the new kept row is as good as the present one -/
theorem kpT_R {i : Nat} (hD : PlD T) (hB : RwB T (T 413)) (hU : T 412 6 ≤ 10) (hi : i = if T 412 6 = 10 then 9 else T 412 6) : RwB T (rw4 (kpT T) 414 i) ∧ ∀ j, ¬ garb (T 413) j → rw4 (kpT T) 414 i j = T 413 j := by
  have e : ∀ j, ¬ garb (T 413) j → rw4 (kpT T) 414 i j = T 413 j := fun j hj => kpT_new hU hi (by
    by_cases c : j < 603
    · exact c
    · exact absurd (Or.inl (by omega)) hj)
  refine ⟨hB.ext hD e (fun j => ?_), e⟩
  by_cases c : j < 603
  · rw [kpT_new hU hi c]; exact hB.1.big j
  · unfold rw4
    rw [if_neg c]; decide
end
section
variable {h : aH} {T : Nat → Nat → Nat} {P Q : Nat}
theorem r_keepsL54 (hS : Sh h) {U : Nat} (hU : U < 10) (h6 : h_iv h 412 6 = nI U) {k88 : aH → Option (Unit × aH)} {R : Option (Unit × aH) → Prop} (hk : ∀ h1, Fr (fun o => o = 414) h h1 → (∀ k, h_iv h1 414 k = if 603 * U ≤ k ∧ k < 603 * U + 603 then h_iv h 413 (k - 603 * U) else h_iv h 414 k) → R (k88 h1)) : R (aL1 (m_X12_keeps_L54 412 k88) FU (nI 0) h) := by
  refine aL1_run (fun m s1 h1 => ∃ i, i ≤ 603 ∧ m = 603 - i ∧ s1 = nI i ∧ Fr (fun o => o = 414) h h1 ∧ ∀ k, h_iv h1 414 k = if 603 * U ≤ k ∧ k < 603 * U + i then h_iv h 413 (k - 603 * U) else h_iv h 414 k) ⟨0, Nat.zero_le _, rfl, rfl, Fr.rf, fun k => by rw [if_neg (by omega)]⟩ (by omega) ?_
  rintro rec m s1 h1 ⟨i, hi, rfl, rfl, hF, hv⟩ ih
  have S1 := hF.sh hS
  by_cases hlt : i < 603
  · have e : h_iv h1 413 = h_iv h 413 := hF.iv (by decide)
    have e6 : h_iv h1 412 6 = nI U := by rw [hF.iv (by decide)]; exact h6
    simp (maxSteps := 3000000) (disch := first | assumption | omega) only [m_X12_keeps_L54, bO_v, bR_v, bX_l, bX_r, bC_l, bC_r, aJ_v, aLet_v, nI_add, pk_mul, dvI_n, rmI_n, iMax_n, iMin_n, zO_0, zO_1, li_0, li_1, li_2, li_3, li_4, li_5, li_6, li_7, li_8, li_9, li_10, li_12, li_14, li_15, li_16, li_18, li_19, li_20, li_22, li_23, li_24, li_26, li_29, li_30, li_31, li_32, li_36, li_38, li_48, li_50, li_57, li_58, li_59, li_60, li_63, li_97, li_99, li_120, li_122, li_144, li_168, li_194, li_240, li_255, li_284, li_299, li_603, li_999, li_1200, li_1440, li_4095, li_4096, li_6030, li_16384, li_20160, zl0, zl1, zl2, zl3, zl4, ze01, ze02, ze03, ze04, ze10, ze12, ze13, ze14, ze20, ze21, ze23, ze24, ze30, ze31, ze32, ze34, ze40, ze41, ze42, ze43, zt0, zt1, zt2, zt3, zt4, zq0, zq1, zq2, zq3, zq4, it_t, it_f, Bool.true_eq_false, Bool.false_eq_true, na5, na4, na1441, na2, na10, sx_IOIA, sx_IOIS, sx_IONS, sx_IAIO, sx_IAIS, sx_IANS, sx_ISIO, sx_ISIA, sx_ISNS, sx_NSIO, sx_NSIA, sx_NSIS, r_p414 S1, r_p413 S1, r_c413_al S1, r_cM_gi S1, e6, r_c414_as S1, nI_ltI]
    rw [if_pos hlt]
    refine ih _ _ _ (by omega) ⟨i + 1, hlt, rfl, rfl, hF.trans (Fr.si rfl), fun k => ?_⟩
    by_cases c : k = 603 * U + i
    · rw [c, si_at, if_pos (by omega), e, show 603 * U + i - 603 * U = i by omega]
    · rw [si_ne (by omega), hv k]
      by_cases c2 : 603 * U ≤ k ∧ k < 603 * U + i
      · rw [if_pos c2, if_pos (by omega)]
      · rw [if_neg c2, if_neg (by omega)]
  · obtain rfl : i = 603 := by omega
    simp (maxSteps := 3000000) (disch := first | assumption | omega) only [m_X12_keeps_L54, bO_v, bR_v, bX_l, bX_r, bC_l, bC_r, aLet_v, nI_add, pk_mul, dvI_n, rmI_n, iMax_n, iMin_n, zO_0, zO_1, li_0, li_1, li_2, li_3, li_4, li_5, li_6, li_7, li_8, li_9, li_10, li_12, li_14, li_15, li_16, li_18, li_19, li_20, li_22, li_23, li_24, li_26, li_29, li_30, li_31, li_32, li_36, li_38, li_48, li_50, li_57, li_58, li_59, li_60, li_63, li_97, li_99, li_120, li_122, li_144, li_168, li_194, li_240, li_255, li_284, li_299, li_603, li_999, li_1200, li_1440, li_4095, li_4096, li_6030, li_16384, li_20160, zl0, zl1, zl2, zl3, zl4, ze01, ze02, ze03, ze04, ze10, ze12, ze13, ze14, ze20, ze21, ze23, ze24, ze30, ze31, ze32, ze34, ze40, ze41, ze42, ze43, zt0, zt1, zt2, zt3, zt4, zq0, zq1, zq2, zq3, zq4, it_t, it_f, Bool.true_eq_false, Bool.false_eq_true, na5, na4, na1441, na2, na10, sx_IOIA, sx_IOIS, sx_IONS, sx_IAIO, sx_IAIS, sx_IANS, sx_ISIO, sx_ISIA, sx_ISNS, sx_NSIO, sx_NSIA, sx_NSIS, nI_ltI]
    rw [if_neg hlt]
    exact hk h1 hF hv
theorem r_keepsL13 (hS : Sh h) {k42 : aH → Option (Unit × aH)} {R : Option (Unit × aH) → Prop} (hk : ∀ h1, Fr (fun o => o = 414) h h1 → (∀ k, h_iv h1 414 k = if k < 5427 then h_iv h 414 (k + 603) else h_iv h 414 k) → R (k42 h1)) : R (aL1 (m_X12_keeps_L13 412 k42) FU (nI 603) h) := by
  refine aL1_run (fun m s1 h1 => ∃ i, 603 ≤ i ∧ i ≤ 6030 ∧ m = 6030 - i ∧ s1 = nI i ∧ Fr (fun o => o = 414) h h1 ∧ ∀ k, h_iv h1 414 k = if k + 603 < i then h_iv h 414 (k + 603) else h_iv h 414 k) ⟨603, Nat.le_refl _, by decide, rfl, rfl, Fr.rf, fun k => by rw [if_neg (by omega)]⟩ (by omega) ?_
  rintro rec m s1 h1 ⟨i, hi0, hi, rfl, rfl, hF, hv⟩ ih
  have S1 := hF.sh hS
  by_cases hlt : i < 6030
  · simp (maxSteps := 3000000) (disch := first | assumption | omega) only [m_X12_keeps_L13, bO_v, bR_v, bX_l, bX_r, bC_l, bC_r, aJ_v, aLet_v, nI_add, pk_mul, dvI_n, rmI_n, iMax_n, iMin_n, zO_0, zO_1, li_0, li_1, li_2, li_3, li_4, li_5, li_6, li_7, li_8, li_9, li_10, li_12, li_14, li_15, li_16, li_18, li_19, li_20, li_22, li_23, li_24, li_26, li_29, li_30, li_31, li_32, li_36, li_38, li_48, li_50, li_57, li_58, li_59, li_60, li_63, li_97, li_99, li_120, li_122, li_144, li_168, li_194, li_240, li_255, li_284, li_299, li_603, li_999, li_1200, li_1440, li_4095, li_4096, li_6030, li_16384, li_20160, zl0, zl1, zl2, zl3, zl4, ze01, ze02, ze03, ze04, ze10, ze12, ze13, ze14, ze20, ze21, ze23, ze24, ze30, ze31, ze32, ze34, ze40, ze41, ze42, ze43, zt0, zt1, zt2, zt3, zt4, zq0, zq1, zq2, zq3, zq4, it_t, it_f, Bool.true_eq_false, Bool.false_eq_true, na5, na4, na1441, na2, na10, sx_IOIA, sx_IOIS, sx_IONS, sx_IAIO, sx_IAIS, sx_IANS, sx_ISIO, sx_ISIA, sx_ISNS, sx_NSIO, sx_NSIA, sx_NSIS, r_p414 S1, r_c414_al S1, pk_sub, r_c414_as S1, nI_ltI]
    rw [if_pos hlt]
    refine ih _ _ _ (by omega) ⟨i + 1, by omega, hlt, rfl, rfl, hF.trans (Fr.si rfl), fun k => ?_⟩
    by_cases c : k = i - 603
    · rw [c, si_at, if_pos (by omega), hv i, if_neg (by omega), show i - 603 + 603 = i by omega]
    · rw [si_ne (by omega), hv k]
      by_cases c2 : k + 603 < i
      · rw [if_pos c2, if_pos (by omega)]
      · rw [if_neg c2, if_neg (by omega)]
  · obtain rfl : i = 6030 := by omega
    simp (maxSteps := 3000000) (disch := first | assumption | omega) only [m_X12_keeps_L13, bO_v, bR_v, bX_l, bX_r, bC_l, bC_r, aLet_v, nI_add, pk_mul, dvI_n, rmI_n, iMax_n, iMin_n, zO_0, zO_1, li_0, li_1, li_2, li_3, li_4, li_5, li_6, li_7, li_8, li_9, li_10, li_12, li_14, li_15, li_16, li_18, li_19, li_20, li_22, li_23, li_24, li_26, li_29, li_30, li_31, li_32, li_36, li_38, li_48, li_50, li_57, li_58, li_59, li_60, li_63, li_97, li_99, li_120, li_122, li_144, li_168, li_194, li_240, li_255, li_284, li_299, li_603, li_999, li_1200, li_1440, li_4095, li_4096, li_6030, li_16384, li_20160, zl0, zl1, zl2, zl3, zl4, ze01, ze02, ze03, ze04, ze10, ze12, ze13, ze14, ze20, ze21, ze23, ze24, ze30, ze31, ze32, ze34, ze40, ze41, ze42, ze43, zt0, zt1, zt2, zt3, zt4, zq0, zq1, zq2, zq3, zq4, it_t, it_f, Bool.true_eq_false, Bool.false_eq_true, na5, na4, na1441, na2, na10, sx_IOIA, sx_IOIS, sx_IONS, sx_IAIO, sx_IAIS, sx_IANS, sx_ISIO, sx_ISIA, sx_ISNS, sx_NSIO, sx_NSIA, sx_NSIS, nI_ltI]
    rw [if_neg hlt]
    refine hk h1 hF (fun k => ?_)
    rw [hv k]
    by_cases c : k < 5427
    · rw [if_pos c, if_pos (by omega)]
    · rw [if_neg c, if_neg (by omega)]
theorem r_keeps (hS : Sh h) (z : RefR h T) (hU : T 412 6 ≤ 10) (hb : ∀ k, T 413 k < 2147483648) : OK (m_X12_keeps 412 h) (fun _ h1 => RK h h1 ∧ RefR h1 (kpT T) ∧ h_iv h1 412 0 = h_iv h 412 0) := by
  have fin : ∀ h1, Fx (fun o k => o = 414 ∨ (o = 412 ∧ k = 6)) h h1 → h_iv h1 412 6 = nI (if T 412 6 = 10 then 10 else T 412 6 + 1) → (∀ k, h_iv h1 414 k = nI (kpT T 414 k)) → RK h h1 ∧ RefR h1 (kpT T) ∧ h_iv h1 412 0 = h_iv h 412 0 := fun h1 F e6 e4 => by
    refine ⟨RK.fx F (fun o k q => by omega), ⟨fun o k q => ?_, fun o k => ?_⟩, F.iv (by omega)⟩
    · by_cases c : o = 414
      · rw [c]; exact e4 k
      · by_cases c2 : o = 412
        · rw [c2]
          by_cases c3 : k = 6
          · rw [c3, kpT_6]; exact e6
          · rw [kpT_f c3, F.iv (by omega)]
            rw [c2] at q
            exact z.1 _ _ q
        · rw [kpT_o c c2, F.iv (by omega)]; exact z.1 o k q
    · by_cases c : o = 414
      · rw [c, kpT_4]
        (repeat' split) <;> exact z.2 _ _
      · by_cases c2 : o = 412
        · rw [c2]
          by_cases c3 : k = 6
          · rw [c3, kpT_6]; split <;> omega
          · rw [kpT_f c3]; exact z.2 _ _
        · rw [kpT_o c c2]; exact z.2 o k
  have u10 : T 412 6 < 2147483648 := by omega
  simp (maxSteps := 3000000) (disch := first | assumption | omega) only [m_X12_keeps, bO_v, bR_v, bX_l, bX_r, bC_l, bC_r, aLet_v, nI_add, pk_mul, dvI_n, rmI_n, iMax_n, iMin_n, zO_0, zO_1, li_0, li_1, li_2, li_3, li_4, li_5, li_6, li_7, li_8, li_9, li_10, li_12, li_14, li_15, li_16, li_18, li_19, li_20, li_22, li_23, li_24, li_26, li_29, li_30, li_31, li_32, li_36, li_38, li_48, li_50, li_57, li_58, li_59, li_60, li_63, li_97, li_99, li_120, li_122, li_144, li_168, li_194, li_240, li_255, li_284, li_299, li_603, li_999, li_1200, li_1440, li_4095, li_4096, li_6030, li_16384, li_20160, zl0, zl1, zl2, zl3, zl4, ze01, ze02, ze03, ze04, ze10, ze12, ze13, ze14, ze20, ze21, ze23, ze24, ze30, ze31, ze32, ze34, ze40, ze41, ze42, ze43, zt0, zt1, zt2, zt3, zt4, zq0, zq1, zq2, zq3, zq4, it_t, it_f, Bool.true_eq_false, Bool.false_eq_true, na5, na4, na1441, na2, na10, sx_IOIA, sx_IOIS, sx_IONS, sx_IAIO, sx_IAIS, sx_IANS, sx_ISIO, sx_ISIA, sx_ISNS, sx_NSIO, sx_NSIA, sx_NSIS, r_cM_gi hS, z.f6, nI_eq]
  refine aJ_gen (R := fun o => OK o _) (fun k52 hk52 => ?_)
  by_cases c : T 412 6 = 10
  · rw [if_pos c]
    simp only [aJ_v]
    refine r_keepsL13 (R := fun o => OK o _) hS (fun h1 F1 v1 => ?_)
    have S1 := F1.sh hS
    have e6 : h_iv h1 412 6 = nI 10 := by rw [F1.iv (by decide), z.f6, c]
    simp (maxSteps := 3000000) (disch := first | assumption | omega) only [bO_v, bR_v, bX_l, bX_r, bC_l, bC_r, aLet_v, nI_add, pk_mul, dvI_n, rmI_n, iMax_n, iMin_n, zO_0, zO_1, li_0, li_1, li_2, li_3, li_4, li_5, li_6, li_7, li_8, li_9, li_10, li_12, li_14, li_15, li_16, li_18, li_19, li_20, li_22, li_23, li_24, li_26, li_29, li_30, li_31, li_32, li_36, li_38, li_48, li_50, li_57, li_58, li_59, li_60, li_63, li_97, li_99, li_120, li_122, li_144, li_168, li_194, li_240, li_255, li_284, li_299, li_603, li_999, li_1200, li_1440, li_4095, li_4096, li_6030, li_16384, li_20160, zl0, zl1, zl2, zl3, zl4, ze01, ze02, ze03, ze04, ze10, ze12, ze13, ze14, ze20, ze21, ze23, ze24, ze30, ze31, ze32, ze34, ze40, ze41, ze42, ze43, zt0, zt1, zt2, zt3, zt4, zq0, zq1, zq2, zq3, zq4, it_t, it_f, Bool.true_eq_false, Bool.false_eq_true, na5, na4, na1441, na2, na10, sx_IOIA, sx_IOIS, sx_IONS, sx_IAIO, sx_IAIS, sx_IANS, sx_ISIO, sx_ISIA, sx_ISNS, sx_NSIO, sx_NSIA, sx_NSIS, r_cM_gi S1, e6, pk_sub, r_cM_pi S1]
    rw [hk52]
    simp only [bO_v, bR_v, bX_l, bX_r, bC_l, bC_r, aLet_v, nI_add, pk_mul, dvI_n, rmI_n, iMax_n, iMin_n, zO_0, zO_1, li_0, li_1, li_2, li_3, li_4, li_5, li_6, li_7, li_8, li_9, li_10, li_12, li_14, li_15, li_16, li_18, li_19, li_20, li_22, li_23, li_24, li_26, li_29, li_30, li_31, li_32, li_36, li_38, li_48, li_50, li_57, li_58, li_59, li_60, li_63, li_97, li_99, li_120, li_122, li_144, li_168, li_194, li_240, li_255, li_284, li_299, li_603, li_999, li_1200, li_1440, li_4095, li_4096, li_6030, li_16384, li_20160, zl0, zl1, zl2, zl3, zl4, ze01, ze02, ze03, ze04, ze10, ze12, ze13, ze14, ze20, ze21, ze23, ze24, ze30, ze31, ze32, ze34, ze40, ze41, ze42, ze43, zt0, zt1, zt2, zt3, zt4, zq0, zq1, zq2, zq3, zq4, it_t, it_f, Bool.true_eq_false, Bool.false_eq_true, na5, na4, na1441, na2, na10, sx_IOIA, sx_IOIS, sx_IONS, sx_IAIO, sx_IAIS, sx_IANS, sx_ISIO, sx_ISIA, sx_ISNS, sx_NSIO, sx_NSIA, sx_NSIS, aJ_v]
    have S2 : Sh (h_si h1 412 6 (nI (10 - 1))) := S1.si _ _ _
    refine r_keepsL54 (R := fun o => OK o _) S2 (U := 9) (by decide) si_at (fun h3 F3 v3 => ?_)
    have S3 := F3.sh S2
    have e63 : h_iv h3 412 6 = nI 9 := by rw [F3.iv (by decide), si_at]
    simp (maxSteps := 3000000) (disch := first | assumption | omega) only [bO_v, bR_v, bX_l, bX_r, bC_l, bC_r, aLet_v, nI_add, pk_mul, dvI_n, rmI_n, iMax_n, iMin_n, zO_0, zO_1, li_0, li_1, li_2, li_3, li_4, li_5, li_6, li_7, li_8, li_9, li_10, li_12, li_14, li_15, li_16, li_18, li_19, li_20, li_22, li_23, li_24, li_26, li_29, li_30, li_31, li_32, li_36, li_38, li_48, li_50, li_57, li_58, li_59, li_60, li_63, li_97, li_99, li_120, li_122, li_144, li_168, li_194, li_240, li_255, li_284, li_299, li_603, li_999, li_1200, li_1440, li_4095, li_4096, li_6030, li_16384, li_20160, zl0, zl1, zl2, zl3, zl4, ze01, ze02, ze03, ze04, ze10, ze12, ze13, ze14, ze20, ze21, ze23, ze24, ze30, ze31, ze32, ze34, ze40, ze41, ze42, ze43, zt0, zt1, zt2, zt3, zt4, zq0, zq1, zq2, zq3, zq4, it_t, it_f, Bool.true_eq_false, Bool.false_eq_true, na5, na4, na1441, na2, na10, sx_IOIA, sx_IOIS, sx_IONS, sx_IAIO, sx_IAIS, sx_IANS, sx_ISIO, sx_ISIA, sx_ISNS, sx_NSIO, sx_NSIA, sx_NSIS, r_cM_gi S3, e63, r_cM_pi S3]
    refine ok_ret (fin _ (((F1.fx.mono (fun o k q => Or.inl q)).trans (Fx.si (Or.inr ⟨rfl, rfl⟩))).trans ((F3.fx.mono (fun o k q => Or.inl q)).trans (Fx.si (Or.inr ⟨rfl, rfl⟩)))) (by rw [if_pos c, si_at]) (fun k => ?_))
    rw [si_ne (by omega), v3 k, kpT_4, if_pos c]
    by_cases c1 : k < 5427
    · rw [if_neg (by omega), if_pos c1, si_ne (by omega), v1 k, if_pos c1]; exact z.c414 _
    · rw [if_neg c1]
      by_cases c2 : k < 6030
      · rw [if_pos (by omega), if_pos c2, si_ne (by omega), F1.iv (by decide)]; exact z.c413 _
      · rw [if_neg (by omega), if_neg c2, si_ne (by omega), v1 k, if_neg c1]; exact z.c414 _
  · rw [if_neg c, hk52]
    simp only [bO_v, bR_v, bX_l, bX_r, bC_l, bC_r, aLet_v, nI_add, pk_mul, dvI_n, rmI_n, iMax_n, iMin_n, zO_0, zO_1, li_0, li_1, li_2, li_3, li_4, li_5, li_6, li_7, li_8, li_9, li_10, li_12, li_14, li_15, li_16, li_18, li_19, li_20, li_22, li_23, li_24, li_26, li_29, li_30, li_31, li_32, li_36, li_38, li_48, li_50, li_57, li_58, li_59, li_60, li_63, li_97, li_99, li_120, li_122, li_144, li_168, li_194, li_240, li_255, li_284, li_299, li_603, li_999, li_1200, li_1440, li_4095, li_4096, li_6030, li_16384, li_20160, zl0, zl1, zl2, zl3, zl4, ze01, ze02, ze03, ze04, ze10, ze12, ze13, ze14, ze20, ze21, ze23, ze24, ze30, ze31, ze32, ze34, ze40, ze41, ze42, ze43, zt0, zt1, zt2, zt3, zt4, zq0, zq1, zq2, zq3, zq4, it_t, it_f, Bool.true_eq_false, Bool.false_eq_true, na5, na4, na1441, na2, na10, sx_IOIA, sx_IOIS, sx_IONS, sx_IAIO, sx_IAIS, sx_IANS, sx_ISIO, sx_ISIA, sx_ISNS, sx_NSIO, sx_NSIA, sx_NSIS, aJ_v]
    refine r_keepsL54 (R := fun o => OK o _) hS (U := T 412 6) (by omega) z.f6 (fun h3 F3 v3 => ?_)
    have S3 := F3.sh hS
    have e63 : h_iv h3 412 6 = nI (T 412 6) := by rw [F3.iv (by decide)]; exact z.f6
    simp (maxSteps := 3000000) (disch := first | assumption | omega) only [bO_v, bR_v, bX_l, bX_r, bC_l, bC_r, aLet_v, nI_add, pk_mul, dvI_n, rmI_n, iMax_n, iMin_n, zO_0, zO_1, li_0, li_1, li_2, li_3, li_4, li_5, li_6, li_7, li_8, li_9, li_10, li_12, li_14, li_15, li_16, li_18, li_19, li_20, li_22, li_23, li_24, li_26, li_29, li_30, li_31, li_32, li_36, li_38, li_48, li_50, li_57, li_58, li_59, li_60, li_63, li_97, li_99, li_120, li_122, li_144, li_168, li_194, li_240, li_255, li_284, li_299, li_603, li_999, li_1200, li_1440, li_4095, li_4096, li_6030, li_16384, li_20160, zl0, zl1, zl2, zl3, zl4, ze01, ze02, ze03, ze04, ze10, ze12, ze13, ze14, ze20, ze21, ze23, ze24, ze30, ze31, ze32, ze34, ze40, ze41, ze42, ze43, zt0, zt1, zt2, zt3, zt4, zq0, zq1, zq2, zq3, zq4, it_t, it_f, Bool.true_eq_false, Bool.false_eq_true, na5, na4, na1441, na2, na10, sx_IOIA, sx_IOIS, sx_IONS, sx_IAIO, sx_IAIS, sx_IANS, sx_ISIO, sx_ISIA, sx_ISNS, sx_NSIO, sx_NSIA, sx_NSIS, r_cM_gi S3, e63, r_cM_pi S3]
    refine ok_ret (fin _ ((F3.fx.mono (fun o k q => Or.inl q)).trans (Fx.si (Or.inr ⟨rfl, rfl⟩))) (by rw [if_neg c, si_at]) (fun k => ?_))
    rw [si_ne (by omega), v3 k, kpT_4, if_neg c]
    by_cases c2 : 603 * T 412 6 ≤ k ∧ k < 603 * T 412 6 + 603
    · rw [if_pos c2, if_pos c2]; exact z.c413 _
    · rw [if_neg c2, if_neg c2]; exact z.c414 _
/-- the history's frame: one state, the count, the order -/
def KF (b : Nat) (h h1 : aH) : Prop := Sh h1 ∧ h_nx h1 = h_nx h ∧ h_sl h1 = h_sl h ∧ h_sh h1 = h_sh h ∧ h_ln h1 = h_ln h ∧ h_lv h1 = h_lv h ∧ (∀ o, ¬ (b ≤ o ∧ o < b + 18) → o ≠ 180 → h_iv h1 o = h_iv h o) ∧ ∀ o k, ¬ (o = b ∧ k = 0) → o ≠ 181 → h_rv h1 o k = h_rv h o k
theorem k_keepT (hS : Sh h) (hP : P ∈ plL) (hD : PlD T) {S : Nat → Nat} (hR : RwD T S) (x : StR h 134 P T S) {n m : Nat} (hn : n < 10) (e0 : h_iv h 180 0 = nI n) (hm : m < 10) (hr : h_rv h 181 n = 184 + 19 * m) :
    OK (bO (gr h 2 180 1) fun x4 => bO (gi h 2 180 0) fun x5 => bO (alr h 5 x4 x5) fun x6 => gS h 10 x6 <| bR (m_X10_copyFrom x6 134 h) fun _ h2 => bO (gi h2 2 180 0) fun x7 => bO (pi h2 2 180 0 (x7 + (1 : Int32))) fun h3 => some ((), h3))
      (fun _ h1 => KF (184 + 19 * m) h h1 ∧ h_iv h1 180 0 = nI (n + 1) ∧ StR h1 (184 + 19 * m) P T S ∧ h_rv h1 181 = h_rv h 181) := by
  have hb : 184 + 19 * m ∈ stL := by
    have hd : ∀ m, m < 10 → 184 + 19 * m ∈ stL := by decide
    exact hd m hm
  have h134 : 134 ∈ stL := by decide
  have al : alr h 5 181 (nI n) = some (184 + 19 * m) := alr_ok (c_ckept hS).1 (c_ckept hS).2 hn (by omega) hr (by omega)
  simp (maxSteps := 3000000) (disch := first | assumption | omega) only [bO_v, bR_v, bX_l, bX_r, bC_l, bC_r, aLet_v, nI_add, pk_mul, dvI_n, rmI_n, iMax_n, iMin_n, zO_0, zO_1, li_0, li_1, li_2, li_3, li_4, li_5, li_6, li_7, li_8, li_9, li_10, li_12, li_14, li_15, li_16, li_18, li_19, li_20, li_22, li_23, li_24, li_26, li_29, li_30, li_31, li_32, li_36, li_38, li_48, li_50, li_57, li_58, li_59, li_60, li_63, li_97, li_99, li_120, li_122, li_144, li_168, li_194, li_240, li_255, li_284, li_299, li_603, li_999, li_1200, li_1440, li_4095, li_4096, li_6030, li_16384, li_20160, zl0, zl1, zl2, zl3, zl4, ze01, ze02, ze03, ze04, ze10, ze12, ze13, ze14, ze20, ze21, ze23, ze24, ze30, ze31, ze32, ze34, ze40, ze41, ze42, ze43, zt0, zt1, zt2, zt3, zt4, zq0, zq1, zq2, zq3, zq4, it_t, it_f, Bool.true_eq_false, Bool.false_eq_true, na5, na4, na1441, na2, na10, sx_IOIA, sx_IOIS, sx_IONS, sx_IAIO, sx_IAIS, sx_IANS, sx_ISIO, sx_ISIA, sx_ISNS, sx_NSIO, sx_NSIA, sx_NSIS, c_pkept hS, c_cH_gi hS, e0, al, s_cS_gS hS hb]
  refine ok_bR (k_copyFrom hS h134 hb (by omega) hP x hD hR) (fun _ h2 hh => ?_)
  obtain ⟨S2, C2, x2⟩ := hh
  obtain ⟨q1, q2, q3, q4, q5, q6, q7⟩ := C2
  have e2 : h_iv h2 180 0 = nI n := by rw [q6 _ (by omega)]; exact e0
  simp (maxSteps := 3000000) (disch := first | assumption | omega) only [bO_v, bR_v, bX_l, bX_r, bC_l, bC_r, aLet_v, nI_add, pk_mul, dvI_n, rmI_n, iMax_n, iMin_n, zO_0, zO_1, li_0, li_1, li_2, li_3, li_4, li_5, li_6, li_7, li_8, li_9, li_10, li_12, li_14, li_15, li_16, li_18, li_19, li_20, li_22, li_23, li_24, li_26, li_29, li_30, li_31, li_32, li_36, li_38, li_48, li_50, li_57, li_58, li_59, li_60, li_63, li_97, li_99, li_120, li_122, li_144, li_168, li_194, li_240, li_255, li_284, li_299, li_603, li_999, li_1200, li_1440, li_4095, li_4096, li_6030, li_16384, li_20160, zl0, zl1, zl2, zl3, zl4, ze01, ze02, ze03, ze04, ze10, ze12, ze13, ze14, ze20, ze21, ze23, ze24, ze30, ze31, ze32, ze34, ze40, ze41, ze42, ze43, zt0, zt1, zt2, zt3, zt4, zq0, zq1, zq2, zq3, zq4, it_t, it_f, Bool.true_eq_false, Bool.false_eq_true, na5, na4, na1441, na2, na10, sx_IOIA, sx_IOIS, sx_IONS, sx_IAIO, sx_IAIS, sx_IANS, sx_ISIO, sx_ISIA, sx_ISNS, sx_NSIO, sx_NSIA, sx_NSIS, c_cH_gi S2, e2, c_cH_pi S2]
  refine ok_ret ⟨⟨S2.si _ _ _, q1, q2, q3, q4, q5, fun o h1 h2 => ?_, fun o k h1 h2 => q7 o k h1⟩, si_at, ?_, funext fun k => q7 _ k (by omega)⟩
  · rw [← q6 o h1]
    exact funext fun j => si_ne (by omega)
  · exact x2.keep (fun o h1 h2 => funext fun j => si_ne (by omega)) rfl
theorem k_forget (hS : Sh h) {r : Nat → Nat} (hr : ∀ i, i < 10 → h_rv h 181 i = r i) (hst : ∀ i, i < 10 → r i ∈ stL) : OK (m_X2_forgetOldest 180 h) (fun _ h1 => Sh h1 ∧ h_nx h1 = h_nx h ∧ h_sl h1 = h_sl h ∧ h_sh h1 = h_sh h ∧ h_ln h1 = h_ln h ∧ h_lv h1 = h_lv h ∧ (∀ o, o ≠ 180 → h_iv h1 o = h_iv h o) ∧ (∀ o k, o ≠ 181 → h_rv h1 o k = h_rv h o k) ∧ h_iv h1 180 0 = nI 9 ∧ ∀ i, i < 10 → h_rv h1 181 i = if i < 9 then r (i + 1) else r 0) := by
  have np : ∀ k, ∀ q ∈ ptL, ¬ (q.1 = 181 ∧ q.2.1 = k) := by
    have hd : ∀ q ∈ ptL, ¬ (q.1 = 181) := by decide +kernel
    exact fun k q hq e => hd q hq e.1
  have al : ∀ {g : aH}, Sh g → ∀ {i v : Nat}, i < 10 → h_rv g 181 i = v → v ∈ stL → alr g 5 181 (nI i) = some v := fun {g} Sg {i v} hi hv hm => alr_ok (c_ckept Sg).1 (c_ckept Sg).2 hi (by omega) hv (st_ne0 v hm)
  have as : ∀ {g : aH}, Sh g → ∀ {i v : Nat}, i < 10 → v ∈ stL → asr g 5 10 181 (nI i) v = some (h_sr g 181 i v) := fun {g} Sg {i v} hi hm => asr_ok (c_ckept Sg).1 (c_ckept Sg).2 hi (by omega) (s_cS Sg hm)
  simp (maxSteps := 3000000) (disch := first | assumption | omega) only [m_X2_forgetOldest, bO_v, bR_v, bX_l, bX_r, bC_l, bC_r, aLet_v, nI_add, pk_mul, dvI_n, rmI_n, iMax_n, iMin_n, zO_0, zO_1, li_0, li_1, li_2, li_3, li_4, li_5, li_6, li_7, li_8, li_9, li_10, li_12, li_14, li_15, li_16, li_18, li_19, li_20, li_22, li_23, li_24, li_26, li_29, li_30, li_31, li_32, li_36, li_38, li_48, li_50, li_57, li_58, li_59, li_60, li_63, li_97, li_99, li_120, li_122, li_144, li_168, li_194, li_240, li_255, li_284, li_299, li_603, li_999, li_1200, li_1440, li_4095, li_4096, li_6030, li_16384, li_20160, zl0, zl1, zl2, zl3, zl4, ze01, ze02, ze03, ze04, ze10, ze12, ze13, ze14, ze20, ze21, ze23, ze24, ze30, ze31, ze32, ze34, ze40, ze41, ze42, ze43, zt0, zt1, zt2, zt3, zt4, zq0, zq1, zq2, zq3, zq4, it_t, it_f, Bool.true_eq_false, Bool.false_eq_true, na5, na4, na1441, na2, na10, sx_IOIA, sx_IOIS, sx_IONS, sx_IAIO, sx_IAIS, sx_IANS, sx_ISIO, sx_ISIA, sx_ISNS, sx_NSIO, sx_NSIA, sx_NSIS, aJ_v, c_pkept hS, al hS (show 0 < 10 by decide) (hr 0 (by decide)) (hst 0 (by decide))]
  refine aL1_run (R := fun o => OK o _) (fun m s1 g => ∃ i, 1 ≤ i ∧ i ≤ 10 ∧ m = 10 - i ∧ s1 = nI i ∧ Sh g ∧ h_nx g = h_nx h ∧ h_sl g = h_sl h ∧ h_sh g = h_sh h ∧ h_ln g = h_ln h ∧ h_lv g = h_lv h ∧ h_iv g = h_iv h ∧ (∀ o k, o ≠ 181 → h_rv g o k = h_rv h o k) ∧ ∀ j, j < 10 → h_rv g 181 j = if j + 1 < i then r (j + 1) else r j) ⟨1, Nat.le_refl _, by decide, rfl, rfl, hS, rfl, rfl, rfl, rfl, rfl, rfl, fun _ _ _ => rfl, fun j hj => by rw [if_neg (by omega)]; exact hr j hj⟩ (by omega) ?_
  rintro rec m s1 g ⟨i, hi1, hi, rfl, rfl, Sg, g1, g2, g3, g4, g5, g6, g7, g8⟩ ih
  by_cases hlt : i < 10
  · have v := g8 i hlt
    rw [if_neg (by omega)] at v
    simp (maxSteps := 3000000) (disch := first | assumption | omega) only [m_X2_forgetOldest_L9, bO_v, bR_v, bX_l, bX_r, bC_l, bC_r, aLet_v, nI_add, pk_mul, dvI_n, rmI_n, iMax_n, iMin_n, zO_0, zO_1, li_0, li_1, li_2, li_3, li_4, li_5, li_6, li_7, li_8, li_9, li_10, li_12, li_14, li_15, li_16, li_18, li_19, li_20, li_22, li_23, li_24, li_26, li_29, li_30, li_31, li_32, li_36, li_38, li_48, li_50, li_57, li_58, li_59, li_60, li_63, li_97, li_99, li_120, li_122, li_144, li_168, li_194, li_240, li_255, li_284, li_299, li_603, li_999, li_1200, li_1440, li_4095, li_4096, li_6030, li_16384, li_20160, zl0, zl1, zl2, zl3, zl4, ze01, ze02, ze03, ze04, ze10, ze12, ze13, ze14, ze20, ze21, ze23, ze24, ze30, ze31, ze32, ze34, ze40, ze41, ze42, ze43, zt0, zt1, zt2, zt3, zt4, zq0, zq1, zq2, zq3, zq4, it_t, it_f, Bool.true_eq_false, Bool.false_eq_true, na5, na4, na1441, na2, na10, sx_IOIA, sx_IOIS, sx_IONS, sx_IAIO, sx_IAIS, sx_IANS, sx_ISIO, sx_ISIA, sx_ISNS, sx_NSIO, sx_NSIA, sx_NSIS, c_pkept Sg, al Sg hlt v (hst i hlt), pk_sub, as Sg (show i - 1 < 10 by omega) (hst i hlt), nI_ltI]
    rw [if_pos hlt]
    refine ih _ _ _ (by omega) ⟨i + 1, by omega, hlt, rfl, rfl, Sg.sr _ _ _ (np _), g1, g2, g3, g4, g5, g6, fun o k hk => (u2n (by omega)).trans (g7 o k hk), fun j hj => ?_⟩
    by_cases c : j = i - 1
    · rw [c, if_pos (by omega), show i - 1 + 1 = i by omega]
      exact sr_at
    · refine (u2n (by omega)).trans ((g8 j hj).trans ?_)
      by_cases c2 : j + 1 < i
      · rw [if_pos c2, if_pos (by omega)]
      · rw [if_neg c2, if_neg (by omega)]
  · obtain rfl : i = 10 := by omega
    have S2 : Sh (h_sr g 181 9 (r 0)) := Sg.sr _ _ _ (np _)
    simp (maxSteps := 3000000) (disch := first | assumption | omega) only [m_X2_forgetOldest_L9, bO_v, bR_v, bX_l, bX_r, bC_l, bC_r, aLet_v, nI_add, pk_mul, dvI_n, rmI_n, iMax_n, iMin_n, zO_0, zO_1, li_0, li_1, li_2, li_3, li_4, li_5, li_6, li_7, li_8, li_9, li_10, li_12, li_14, li_15, li_16, li_18, li_19, li_20, li_22, li_23, li_24, li_26, li_29, li_30, li_31, li_32, li_36, li_38, li_48, li_50, li_57, li_58, li_59, li_60, li_63, li_97, li_99, li_120, li_122, li_144, li_168, li_194, li_240, li_255, li_284, li_299, li_603, li_999, li_1200, li_1440, li_4095, li_4096, li_6030, li_16384, li_20160, zl0, zl1, zl2, zl3, zl4, ze01, ze02, ze03, ze04, ze10, ze12, ze13, ze14, ze20, ze21, ze23, ze24, ze30, ze31, ze32, ze34, ze40, ze41, ze42, ze43, zt0, zt1, zt2, zt3, zt4, zq0, zq1, zq2, zq3, zq4, it_t, it_f, Bool.true_eq_false, Bool.false_eq_true, na5, na4, na1441, na2, na10, sx_IOIA, sx_IOIS, sx_IONS, sx_IAIO, sx_IAIS, sx_IANS, sx_ISIO, sx_ISIA, sx_ISNS, sx_NSIO, sx_NSIA, sx_NSIS, nI_ltI]
    rw [if_neg hlt]
    simp (maxSteps := 3000000) (disch := first | assumption | omega) only [bO_v, bR_v, bX_l, bX_r, bC_l, bC_r, aLet_v, nI_add, pk_mul, dvI_n, rmI_n, iMax_n, iMin_n, zO_0, zO_1, li_0, li_1, li_2, li_3, li_4, li_5, li_6, li_7, li_8, li_9, li_10, li_12, li_14, li_15, li_16, li_18, li_19, li_20, li_22, li_23, li_24, li_26, li_29, li_30, li_31, li_32, li_36, li_38, li_48, li_50, li_57, li_58, li_59, li_60, li_63, li_97, li_99, li_120, li_122, li_144, li_168, li_194, li_240, li_255, li_284, li_299, li_603, li_999, li_1200, li_1440, li_4095, li_4096, li_6030, li_16384, li_20160, zl0, zl1, zl2, zl3, zl4, ze01, ze02, ze03, ze04, ze10, ze12, ze13, ze14, ze20, ze21, ze23, ze24, ze30, ze31, ze32, ze34, ze40, ze41, ze42, ze43, zt0, zt1, zt2, zt3, zt4, zq0, zq1, zq2, zq3, zq4, it_t, it_f, Bool.true_eq_false, Bool.false_eq_true, na5, na4, na1441, na2, na10, sx_IOIA, sx_IOIS, sx_IONS, sx_IAIO, sx_IAIS, sx_IANS, sx_ISIO, sx_ISIA, sx_ISNS, sx_NSIO, sx_NSIA, sx_NSIS, c_pkept Sg, as Sg (show 9 < 10 by decide) (hst 0 (by decide)), c_cH_pi S2]
    refine ok_ret ⟨S2.si _ _ _, g1, g2, g3, g4, g5, fun o ho => ?_, fun o k hk => (u2n (by omega)).trans (g7 o k hk), si_at, fun j hj => ?_⟩
    · rw [← g6]
      exact funext fun j => si_ne (by omega)
    · by_cases c : j < 9
      · rw [if_pos c]
        refine (u2n (by omega)).trans ((g8 j hj).trans ?_)
        rw [if_pos (by omega)]
      · obtain rfl : j = 9 := by omega
        rw [if_neg c]
        show h_rv (h_sr g 181 9 (r 0)) 181 9 = r 0
        exact sr_at
/-- the class keeps the present state -/
theorem k_keep (I : IC h T P Q) : OK (m_X2_keep 180 134 h) (fun _ h1 => CK 0 h h1 ∧ IC h1 (kpT T) P Q) := by
  have hS := I.sh
  have hD := I.D
  have hP := I.hP
  obtain ⟨kc1, kc2⟩ := I.kc
  have pin := pl_in P hP
  have fin : ∀ {g g2 : aH} {n m : Nat} {r : Nat → Nat}, n < 10 → m < 10 → Sh g → h_nx g = h_nx h → h_sl g = h_sl h → h_sh g = h_sh h → h_ln g = h_ln h → h_lv g = h_lv h → (∀ o, o ≠ 180 → h_iv g o = h_iv h o) → (∀ o k, o ≠ 181 → h_rv g o k = h_rv h o k) → (∀ i, i < 10 → h_rv g 181 i = r i) → (∀ i, i < 10 → ∃ m, m < 10 ∧ r i = 184 + 19 * m) → (∀ i j, i < 10 → j < 10 → r i = r j → i = j) → r n = 184 + 19 * m → (n + 1 = kpT T 412 6) → n = (if T 412 6 = 10 then 9 else T 412 6) →
      (∀ i, i < n → ∃ i', i' < T 412 6 ∧ r i = h_rv h 181 i' ∧ rw4 (kpT T) 414 i = rw4 T 414 i') → KF (184 + 19 * m) g g2 → h_iv g2 180 0 = nI (n + 1) → StR g2 (184 + 19 * m) P T (T 413) → h_rv g2 181 = h_rv g 181 → CK 0 h g2 ∧ IC g2 (kpT T) P Q := by
    intro g g2 n m r hn hm Sg f1 f2 f3 f4 f5 f6 f7 f8 f9 f10 f11 f12 f13 f14 K e0 x2 e9
    obtain ⟨k1, k2, k3, k4, k5, k6, k7, k8⟩ := K
    have iv : ∀ o, ¬ (184 + 19 * m ≤ o ∧ o < 184 + 19 * m + 18) → o ≠ 180 → h_iv g2 o = h_iv h o := fun o q1 q2 => (k7 o q1 q2).trans (f6 o q2)
    have rv : ∀ o k, ¬ (o = 184 + 19 * m ∧ k = 0) → o ≠ 181 → h_rv g2 o k = h_rv h o k := fun o k q1 q2 => (k8 o k q1 q2).trans (f7 o k q2)
    have stk : ∀ {a : Nat} {S : Nat → Nat}, (a = 134 ∨ (184 ≤ a ∧ (a + 18 ≤ 184 + 19 * m ∨ 184 + 19 * m + 18 ≤ a))) → StR h a P T S → StR g2 a P T S := fun {a S} ha y => y.keep (fun o q1 q2 => iv o (by omega) (by omega)) (rv _ _ (by omega) (by omega))
    have pe : Pe T (kpT T) := kpT_pe
    refine ⟨⟨by omega, by omega, by omega, fun o _ => ⟨by rw [k4, f3], by rw [k5, f4]⟩, fun o ho => iv o (by omega) (by omega), fun o k q1 q2 => rv o k (by omega) (by omega), fun o k _ => by rw [k6, f5]⟩, k1, I.pls, by rw [rv _ _ (by omega) (by omega)]; exact I.pl, by rw [rv _ _ (by omega) (by omega)]; exact I.sp, pe.pld hD, pe.plr (I.y.keep (fun o q1 q2 => iv o (by omega) (by omega)) hD), ?_, ?_, ⟨by rw [e0, f12], by rw [kpT_6]; split <;> omega⟩, ?_, ?_, ?_, ?_, ?_⟩
    · rw [kpT_o (by decide) (by decide)]; exact pe.rwb I.RB
    · rw [kpT_o (by decide) (by decide)]; exact pe.str (stk (Or.inl rfl) I.x)
    · intro i hi; rw [e9, f8 i hi]; exact f9 i hi
    · intro i j hi hj; rw [e9, f8 i hi, f8 j hj]; exact f10 i j hi hj
    · intro i hi
      rw [← f12] at hi
      rw [e9, f8 i (by omega)]
      by_cases c : i = n
      · have kR := kpT_R hD I.RB kc2 f13
        rw [c, f11]
        exact ⟨pe.rwb kR.1, pe.str (x2.ext hD I.R kR.2)⟩
      · obtain ⟨i', q1, q2, q3⟩ := f14 i (by omega)
        obtain ⟨m', m1, m2⟩ := f9 i (by omega)
        have ne : m' ≠ m := fun e => c (f10 i n (by omega) hn (by rw [m2, f11, e]))
        rw [q3, m2]
        rw [q2] at m2
        have := I.kp i' q1
        rw [m2] at this
        exact ⟨pe.rwb this.1, pe.str (stk (Or.inr (by omega)) this.2)⟩
    · intro s hs
      obtain ⟨b1, b2, b3⟩ := I.sl s hs
      have e3 : kpT T 417 = T 417 := kpT_o (by decide) (by decide)
      have e1 : rw4 (kpT T) 415 s = rw4 T 415 s := by unfold rw4; rw [kpT_o (by decide) (by decide)]
      rw [e3, e1, iv _ (by omega) (by omega)]
      exact ⟨b1, b2, fun e => ⟨pe.rwb (b3 e).1, pe.str (stk (Or.inr (by omega)) (b3 e).2)⟩⟩
    · have e3 : kpT T 435 = T 435 := kpT_o (by decide) (by decide)
      rw [e3, kpT_f (by decide), iv _ (by omega) (by omega), iv _ (by omega) (by omega)]
      exact I.tx
  simp (maxSteps := 3000000) (disch := first | assumption | omega) only [m_X2_keep, bO_v, bR_v, bX_l, bX_r, bC_l, bC_r, aLet_v, nI_add, pk_mul, dvI_n, rmI_n, iMax_n, iMin_n, zO_0, zO_1, li_0, li_1, li_2, li_3, li_4, li_5, li_6, li_7, li_8, li_9, li_10, li_12, li_14, li_15, li_16, li_18, li_19, li_20, li_22, li_23, li_24, li_26, li_29, li_30, li_31, li_32, li_36, li_38, li_48, li_50, li_57, li_58, li_59, li_60, li_63, li_97, li_99, li_120, li_122, li_144, li_168, li_194, li_240, li_255, li_284, li_299, li_603, li_999, li_1200, li_1440, li_4095, li_4096, li_6030, li_16384, li_20160, zl0, zl1, zl2, zl3, zl4, ze01, ze02, ze03, ze04, ze10, ze12, ze13, ze14, ze20, ze21, ze23, ze24, ze30, ze31, ze32, ze34, ze40, ze41, ze42, ze43, zt0, zt1, zt2, zt3, zt4, zq0, zq1, zq2, zq3, zq4, it_t, it_f, Bool.true_eq_false, Bool.false_eq_true, na5, na4, na1441, na2, na10, sx_IOIA, sx_IOIS, sx_IONS, sx_IAIO, sx_IAIS, sx_IANS, sx_ISIO, sx_ISIA, sx_ISNS, sx_NSIO, sx_NSIA, sx_NSIS, c_cH_gi hS, kc1]
  refine aJ_gen (R := fun o => OK o _) (fun k13 hk13 => ?_)
  simp (maxSteps := 3000000) (disch := first | assumption | omega) only [nI_ltI]
  by_cases c : T 412 6 < 10
  · rw [if_pos c, hk13]
    obtain ⟨m, m1, m2⟩ := I.kA (T 412 6) c
    refine ok_mono (k_keepT hS hP hD I.R I.x c kc1 m1 m2) (fun _ g2 hh => ?_)
    obtain ⟨q1, q2, q3, q4⟩ := hh
    exact fin c m1 hS rfl rfl rfl rfl rfl (fun _ _ => rfl) (fun _ _ _ => rfl) (fun _ _ => rfl) I.kA I.kI m2 (by rw [kpT_6, if_neg (by omega)]) (by rw [if_neg (by omega)]) (fun i hi => ⟨i, hi, rfl, kpT_old kc2 hi (by omega)⟩) q1 q2 q3 q4
  · have c10 : T 412 6 = 10 := by omega
    have hst : ∀ i, i < 10 → h_rv h 181 i ∈ stL := fun i hi => by
      obtain ⟨m, m1, m2⟩ := I.kA i hi
      rw [m2]
      have hd : ∀ m, m < 10 → 184 + 19 * m ∈ stL := by decide
      exact hd m m1
    rw [if_neg c]
    simp only [c_cH_gS hS]
    refine ok_bR (k_forget hS (r := h_rv h 181) (fun _ _ => rfl) hst) (fun _ g hh => ?_)
    obtain ⟨Sg, g1, g2, g3, g4, g5, g6, g7, g8, g9⟩ := hh
    obtain ⟨m, m1, m2⟩ := I.kA 0 (by decide)
    have xg : StR g 134 P T (T 413) := I.x.keep (fun o q1 q2 => g6 o (by omega)) (g7 _ _ (by decide))
    rw [hk13]
    have m9 : h_rv g 181 9 = 184 + 19 * m := by rw [g9 9 (by decide), if_neg (by decide)]; exact m2
    refine ok_mono (k_keepT Sg hP hD I.R xg (show 9 < 10 by decide) g8 m1 m9) (fun _ g2' hh => ?_)
    obtain ⟨q1, q2, q3, q4⟩ := hh
    refine fin (r := fun i => if i < 9 then h_rv h 181 (i + 1) else h_rv h 181 0) (show 9 < 10 by decide) m1 Sg g1 g2 g3 g4 g5 g6 g7 g9 (fun i hi => ?_) (fun i j hi hj hh => ?_) ?_ (by rw [kpT_6, if_pos c10]) (by rw [if_pos c10]) (fun i hi => ⟨i + 1, by omega, ?_, kpT_sh hi c10⟩) q1 q2 q3 q4
    · show ∃ m, m < 10 ∧ (if i < 9 then h_rv h 181 (i + 1) else h_rv h 181 0) = 184 + 19 * m
      split
      · exact I.kA _ (by omega)
      · exact I.kA _ (by omega)
    · have hh : (if i < 9 then h_rv h 181 (i + 1) else h_rv h 181 0) = (if j < 9 then h_rv h 181 (j + 1) else h_rv h 181 0) := hh
      by_cases c1 : i < 9
      · by_cases c2 : j < 9
        · rw [if_pos c1, if_pos c2] at hh
          have := I.kI _ _ (by omega) (by omega) hh
          omega
        · rw [if_pos c1, if_neg c2] at hh
          have := I.kI _ _ (by omega) (by omega) hh
          omega
      · by_cases c2 : j < 9
        · rw [if_neg c1, if_pos c2] at hh
          have := I.kI _ _ (by omega) (by omega) hh
          omega
        · omega
    · exact (if_neg (by decide)).trans m2
    · exact if_pos hi
end
