/-! the most engines that can leave together -/
/-- the posts of the chosen ones among the first i engines of a kind, one behind the other -/
def nC (T : Nat → Nat → Nat) (k set : Nat) : Nat → Nat
  | 0 => 0
  | i + 1 => nC T k set i + (if set.testBit i then T 426 (enK T k i) else 0)
def tC (T : Nat → Nat → Nat) (k set : Nat) : Nat → Nat → Nat
  | 0 => fun _ => 0
  | i + 1 => if set.testBit i then (fun j => if j < nC T k set i then tC T k set i j else tyE T (enK T k i) (j - nC T k set i)) else tC T k set i
def badE (T : Nat → Nat → Nat) (S : Nat → Nat) (k set i : Nat) : Bool := set.testBit i && (rstd S (enK T k i) || eout S (enK T k i))
/-- whether a set of engines could leave -/
def cld (T : Nat → Nat → Nat) (S : Nat → Nat) (k set : Nat) : Bool := !anyB (badE T S k set) (T 433 k) && decide (rk (tC T k set (T 433 k)) (Kc T) (nC T k set (T 433 k)) (com T S k) = nC T k set (T 433 k))
section
variable {T : Nat → Nat → Nat} {S : Nat → Nat}
theorem tC_lt (k set : Nat) : ∀ i j, tC T k set i j < 5
  | 0, j => by show 0 < 5; decide
  | i + 1, j => by
    rw [tC]
    by_cases c : set.testBit i = true
    · rw [if_pos c]
      show (if j < nC T k set i then tC T k set i j else tyE T (enK T k i) (j - nC T k set i)) < 5
      by_cases c2 : j < nC T k set i
      · rw [if_pos c2]; exact tC_lt k set i j
      · rw [if_neg c2]; exact ptyp_lt _
    · rw [if_neg c]; exact tC_lt k set i j
theorem nC_le (hD : PlD T) {k set : Nat} (hk : k < T 412 11) : ∀ {i}, i ≤ T 433 k → nC T k set i ≤ 6 * i
  | 0, _ => Nat.le_refl _
  | i + 1, h => by
    have := nC_le hD (set := set) hk (i := i) (by omega)
    have := hD.pst _ (hD.ke k hk i (by omega))
    have e : enK T k i = T 434 (5 * k + i) := rfl
    rw [nC, e]
    split <;> omega
theorem rcB_cong {t t' K : Nat → Nat} {set N : Nat} {all : Bool} : ∀ {n m : Nat}, (∀ j, j < n → t j = t' j) → rcB t K set all N n m = rcB t' K set all N n m
  | 0, m, _ => rfl
  | n + 1, m, h => by
    have ih : rcB t K set all N n = rcB t' K set all N n := funext fun m => rcB_cong (fun j hj => h j (by omega))
    rw [rcB, rcB, ih, h n (by omega)]
theorem tC_old {k set i j : Nat} (hj : j < nC T k set i) : tC T k set (i + 1) j = tC T k set i j := by
  rw [tC]
  by_cases c : set.testBit i = true
  · rw [if_pos c]
    show (if j < nC T k set i then tC T k set i j else _) = _
    rw [if_pos hj]
  · rw [if_neg c]
theorem tC_new {k set i j : Nat} (c : set.testBit i = true) : tC T k set (i + 1) (nC T k set i + j) = tyE T (enK T k i) j := by
  rw [tC, if_pos c]
  show (if nC T k set i + j < nC T k set i then _ else tyE T (enK T k i) (nC T k set i + j - nC T k set i)) = _
  rw [if_neg (by omega), show nC T k set i + j - nC T k set i = j by omega]
theorem any_rk {t K : Nat → Nat} (ht : ∀ k, t k < 5) {set N n : Nat} (hN : N ≤ 12) (hs : set < 2 ^ N) : anyB (rcB t K set true N n) 4096 = decide (rk t K n set = n) := by
  have hs2 := two_pow_lt hN hs
  obtain ⟨⟨m, m1, m2, m3⟩, hle⟩ := rk_spec (K := K) ht n set
  have rl := rk_le t K n set
  apply Bool.eq_iff_iff.mpr
  rw [anyB_t, decide_eq_true_iff]
  constructor
  · rintro ⟨q, q1, q2⟩
    have h2 := (rcB_a hN hs).mp q2
    obtain ⟨h3, h4⟩ := Me_Mt h2.1
    have := hle q h2.2 h3
    omega
  · intro h
    exact ⟨m, sub_lt (N := 12) m1 hs2, (rcB_a hN hs).mpr ⟨Mt_Me m2 (by omega), m1⟩⟩
theorem rk_few {t K : Nat → Nat} (ht : ∀ k, t k < 5) {set n : Nat} (h : sz set < n) : rk t K n set ≠ n := by
  obtain ⟨⟨m, m1, m2, m3⟩, -⟩ := rk_spec (K := K) ht n set
  have := sz_sub m1
  omega
end
section
variable {h : aH} {a P : Nat} {T : Nat → Nat → Nat} {S : Nat → Nat}
/-- an array of ints is filled -/
theorem k_fill {b n : Nat} {v : Int32} (h1 : h_sh h b = 1) (h2 : h_ln h b = n) (hn : n < 100000) : OK (m_J7_fill_53178 b v h) (fun _ h1 => Fr (fun o => o = b) h h1 ∧ ∀ k, k < n → h_iv h1 b k = v) := by
  have e2 : aln h b = some (nI n) := aln_ok (by omega) (by omega) (by omega) h2
  simp only [m_J7_fill_53178, bO_v, e2, aJ_v, li_0]
  refine aL1_run (R := fun o => OK o _) (fun m s1 g => ∃ i, i ≤ n ∧ m = n - i ∧ s1 = nI i ∧ Fr (fun o => o = b) h g ∧ ∀ k, k < i → h_iv g b k = v) ⟨0, Nat.zero_le _, rfl, rfl, Fr.rf, fun k hk => absurd hk (Nat.not_lt_zero k)⟩ (by omega) ?_
  rintro rec m s1 g ⟨i, hi, rfl, rfl, hF, hv⟩ ih
  by_cases hlt : i < n
  · have w : asi g b (nI i) v = some (h_si g b i v) := asi_ok (by rw [hF.2.2.1]; exact h1) (by rw [hF.2.2.2.1]; exact h2) hlt (by omega)
    simp (maxSteps := 3000000) (disch := first | assumption | omega) only [m_J7_fill_53178_L5, bO_v, bR_v, bX_l, bX_r, bC_l, bC_r, aJ_v, aLet_v, nI_add, pk_mul, dvI_n, rmI_n, iMax_n, iMin_n, zO_0, zO_1, li_0, li_1, li_2, li_3, li_4, li_5, li_6, li_7, li_8, li_9, li_10, li_12, li_14, li_15, li_16, li_18, li_19, li_20, li_22, li_23, li_24, li_26, li_29, li_30, li_31, li_32, li_36, li_38, li_48, li_50, li_57, li_58, li_59, li_60, li_63, li_97, li_99, li_120, li_122, li_144, li_168, li_194, li_240, li_255, li_284, li_299, li_603, li_999, li_1200, li_1440, li_4095, li_4096, li_6030, li_16384, li_20160, zl0, zl1, zl2, zl3, zl4, ze01, ze02, ze03, ze04, ze10, ze12, ze13, ze14, ze20, ze21, ze23, ze24, ze30, ze31, ze32, ze34, ze40, ze41, ze42, ze43, zt0, zt1, zt2, zt3, zt4, zq0, zq1, zq2, zq3, zq4, it_t, it_f, Bool.true_eq_false, Bool.false_eq_true, na5, na4, na1441, na2, na10, sx_IOIA, sx_IOIS, sx_IONS, sx_IAIO, sx_IAIS, sx_IANS, sx_ISIO, sx_ISIA, sx_ISNS, sx_NSIO, sx_NSIA, sx_NSIS, w, nI_ltI]
    rw [if_pos hlt]
    refine ih _ _ _ (by omega) ⟨i + 1, hlt, rfl, rfl, hF.trans (Fr.si rfl), fun k hk => ?_⟩
    by_cases c : k = i
    · rw [c, si_at]
    · rw [si_ne (by omega)]; exact hv k (by omega)
  · obtain rfl : i = n := by omega
    simp (maxSteps := 3000000) (disch := first | assumption | omega) only [m_J7_fill_53178_L5, bO_v, bR_v, bX_l, bX_r, bC_l, bC_r, aLet_v, nI_add, pk_mul, dvI_n, rmI_n, iMax_n, iMin_n, zO_0, zO_1, li_0, li_1, li_2, li_3, li_4, li_5, li_6, li_7, li_8, li_9, li_10, li_12, li_14, li_15, li_16, li_18, li_19, li_20, li_22, li_23, li_24, li_26, li_29, li_30, li_31, li_32, li_36, li_38, li_48, li_50, li_57, li_58, li_59, li_60, li_63, li_97, li_99, li_120, li_122, li_144, li_168, li_194, li_240, li_255, li_284, li_299, li_603, li_999, li_1200, li_1440, li_4095, li_4096, li_6030, li_16384, li_20160, zl0, zl1, zl2, zl3, zl4, ze01, ze02, ze03, ze04, ze10, ze12, ze13, ze14, ze20, ze21, ze23, ze24, ze30, ze31, ze32, ze34, ze40, ze41, ze42, ze43, zt0, zt1, zt2, zt3, zt4, zq0, zq1, zq2, zq3, zq4, it_t, it_f, Bool.true_eq_false, Bool.false_eq_true, na5, na4, na1441, na2, na10, sx_IOIA, sx_IOIS, sx_IONS, sx_IAIO, sx_IAIS, sx_IANS, sx_ISIO, sx_ISIA, sx_ISNS, sx_NSIO, sx_NSIA, sx_NSIS, nI_ltI]
    rw [if_neg hlt]
    exact ok_ret ⟨hF, hv⟩
/-- the class: one more engine's demand -/
theorem k_couldL67 (hS : Sh h) (hP : P ∈ plL) (y : PlR h P T) (hD : PlD T) {e n : Nat} {t : Nat → Nat} (he : e < T 412 10) (hn : n ≤ 1000) (v : ∀ s, s < 32 → h_iv h 179 s = nI (fb_ct (fun j => s.testBit (t j)) n)) {k98 : aH → Option (Int32 × aH)} {R : Option (Int32 × aH) → Prop}
    (hk : ∀ h1, Fr (fun o => o = 179) h h1 → (∀ s, s < 32 → h_iv h1 179 s = nI (fb_ct (fun j => s.testBit (t j)) n + fb_ct (fun j => s.testBit (tyE T e j)) (T 426 e))) → R (k98 h1)) : R (aL1 (m_X4_couldLeaveTogether_L67 172 k98 (P + 32 + 3 * e)) FU (nI 0) h) := by
  have d1 := hD.nE
  have p1 := pl_in P hP
  refine aL1_run (fun m s1 g => ∃ i, i ≤ 32 ∧ m = 32 - i ∧ s1 = nI i ∧ Fr (fun o => o = 179) h g ∧ (∀ s, s < i → h_iv g 179 s = nI (fb_ct (fun j => s.testBit (t j)) n + fb_ct (fun j => s.testBit (tyE T e j)) (T 426 e))) ∧ ∀ s, i ≤ s → s < 32 → h_iv g 179 s = nI (fb_ct (fun j => s.testBit (t j)) n)) ⟨0, Nat.zero_le _, rfl, rfl, Fr.rf, fun s hs => absurd hs (Nat.not_lt_zero s), fun s _ hs => v s hs⟩ (by omega) ?_
  rintro rec m s1 g ⟨i, hi, rfl, rfl, hF, hv, hv2⟩ ih
  have S1 := hF.sh hS
  have y1 := y.fr hF hD (fun o q1 q2 q3 => by omega)
  by_cases hlt : i < 32
  · have ed := y1.dmd e he i hlt
    rw [dmd_is hD he] at ed
    simp (maxSteps := 3000000) (disch := first | assumption | omega) only [m_X4_couldLeaveTogether_L67, bO_v, bR_v, bX_l, bX_r, bC_l, bC_r, aJ_v, aLet_v, nI_add, pk_mul, dvI_n, rmI_n, iMax_n, iMin_n, zO_0, zO_1, li_0, li_1, li_2, li_3, li_4, li_5, li_6, li_7, li_8, li_9, li_10, li_12, li_14, li_15, li_16, li_18, li_19, li_20, li_22, li_23, li_24, li_26, li_29, li_30, li_31, li_32, li_36, li_38, li_48, li_50, li_57, li_58, li_59, li_60, li_63, li_97, li_99, li_120, li_122, li_144, li_168, li_194, li_240, li_255, li_284, li_299, li_603, li_999, li_1200, li_1440, li_4095, li_4096, li_6030, li_16384, li_20160, zl0, zl1, zl2, zl3, zl4, ze01, ze02, ze03, ze04, ze10, ze12, ze13, ze14, ze20, ze21, ze23, ze24, ze30, ze31, ze32, ze34, ze40, ze41, ze42, ze43, zt0, zt1, zt2, zt3, zt4, zq0, zq1, zq2, zq3, zq4, it_t, it_f, Bool.true_eq_false, Bool.false_eq_true, na5, na4, na1441, na2, na10, sx_IOIA, sx_IOIS, sx_IONS, sx_IAIO, sx_IAIS, sx_IANS, sx_ISIO, sx_ISIA, sx_ISNS, sx_NSIO, sx_NSIA, sx_NSIS, c_pu6 S1, c_cu6_al S1, c_cu6_as S1, hv2 i (Nat.le_refl _) hlt, p_eed_p S1 hP, p_eed_al S1 hP, ed, nI_ltI]
    rw [if_pos hlt]
    refine ih _ _ _ (by omega) ⟨i + 1, hlt, rfl, rfl, hF.trans (Fr.si rfl), fun s hs => ?_, fun s q1 q2 => ?_⟩
    · by_cases c : s = i
      · rw [c, si_at]
      · rw [si_ne (by omega)]; exact hv s (by omega)
    · rw [si_ne (by omega)]; exact hv2 s (by omega) q2
  · obtain rfl : i = 32 := by omega
    simp (maxSteps := 3000000) (disch := first | assumption | omega) only [m_X4_couldLeaveTogether_L67, bO_v, bR_v, bX_l, bX_r, bC_l, bC_r, aLet_v, nI_add, pk_mul, dvI_n, rmI_n, iMax_n, iMin_n, zO_0, zO_1, li_0, li_1, li_2, li_3, li_4, li_5, li_6, li_7, li_8, li_9, li_10, li_12, li_14, li_15, li_16, li_18, li_19, li_20, li_22, li_23, li_24, li_26, li_29, li_30, li_31, li_32, li_36, li_38, li_48, li_50, li_57, li_58, li_59, li_60, li_63, li_97, li_99, li_120, li_122, li_144, li_168, li_194, li_240, li_255, li_284, li_299, li_603, li_999, li_1200, li_1440, li_4095, li_4096, li_6030, li_16384, li_20160, zl0, zl1, zl2, zl3, zl4, ze01, ze02, ze03, ze04, ze10, ze12, ze13, ze14, ze20, ze21, ze23, ze24, ze30, ze31, ze32, ze34, ze40, ze41, ze42, ze43, zt0, zt1, zt2, zt3, zt4, zq0, zq1, zq2, zq3, zq4, it_t, it_f, Bool.true_eq_false, Bool.false_eq_true, na5, na4, na1441, na2, na10, sx_IOIA, sx_IOIS, sx_IONS, sx_IAIO, sx_IAIS, sx_IANS, sx_ISIO, sx_ISIA, sx_ISNS, sx_NSIO, sx_NSIA, sx_NSIS, nI_ltI]
    rw [if_neg hlt]
    exact hk g hF hv
/-- what the class asks of a set of engines -/
theorem k_could (hS : Sh h) (hP : P ∈ plL) (pl : h_rv h 172 1 = P) (y : PlR h P T) (hD : PlD T) {k set : Nat} (hk : k < T 412 11) (hset : set < 32) (hc : h_iv h 172 4 = nI (com T S k)) (hst : ∀ i, i < T 433 k → h_iv h 175 i = nI (plS T S k (plF T S k i) i)) :
    OK (m_X4_couldLeaveTogether 172 (P + 47 + 3 * k) (nI set) h) (fun r h1 => r = b2i (cld T S k set) ∧ Fr (fun o => o = 179) h h1) := by
  have d0 := hD.nP
  have d1 := hD.nE
  have d2 := hD.nK
  have d3 := hD.ken k hk
  have p1 := pl_in P hP
  have mp : ∀ {g : aH}, Fr (fun o => o = 179) h g → gr g 4 172 1 = some P := fun {g} F => k_mplan (F.sh hS) hP (by rw [F.rv]; exact pl)
  have cl : com T S k < 2 ^ T 412 8 := mk_lt _
  have stv : ∀ i, plS T S k (plF T S k i) i = 1 ↔ rstd S (enK T k i) = true := fun i => by
    unfold plS
    cases rstd S (enK T k i)
    · cases eout S (enK T k i)
      · by_cases c : plC T S k (plF T S k i) i = 0 <;> simp [c]
      · simp
    · simp
  have stv2 : ∀ i, rstd S (enK T k i) = false → (plS T S k (plF T S k i) i = 2 ↔ eout S (enK T k i) = true) := fun i hr => by
    unfold plS
    rw [hr]
    cases eout S (enK T k i)
    · by_cases c : plC T S k (plF T S k i) i = 0 <;> simp [c]
    · simp
  simp only [m_X4_couldLeaveTogether, bO_v, bR_v, bX_l, bX_r, bC_l, bC_r, aLet_v, nI_add, pk_mul, dvI_n, rmI_n, iMax_n, iMin_n, zO_0, zO_1, li_0, li_1, li_2, li_3, li_4, li_5, li_6, li_7, li_8, li_9, li_10, li_12, li_14, li_15, li_16, li_18, li_19, li_20, li_22, li_23, li_24, li_26, li_29, li_30, li_31, li_32, li_36, li_38, li_48, li_50, li_57, li_58, li_59, li_60, li_63, li_97, li_99, li_120, li_122, li_144, li_168, li_194, li_240, li_255, li_284, li_299, li_603, li_999, li_1200, li_1440, li_4095, li_4096, li_6030, li_16384, li_20160, zl0, zl1, zl2, zl3, zl4, ze01, ze02, ze03, ze04, ze10, ze12, ze13, ze14, ze20, ze21, ze23, ze24, ze30, ze31, ze32, ze34, ze40, ze41, ze42, ze43, zt0, zt1, zt2, zt3, zt4, zq0, zq1, zq2, zq3, zq4, it_t, it_f, Bool.true_eq_false, Bool.false_eq_true, na5, na4, na1441, na2, na10, sx_IOIA, sx_IOIS, sx_IONS, sx_IAIO, sx_IAIS, sx_IANS, sx_ISIO, sx_ISIA, sx_ISNS, sx_NSIO, sx_NSIA, sx_NSIS, c_pu6 hS]
  refine ok_bR (k_fill (c_cu6 hS).1 (c_cu6 hS).2 (by decide)) (fun _ g0 hh => ?_)
  obtain ⟨F0, v0⟩ := hh
  refine aJ_gen (R := fun o => OK o _) (fun k104 hk104 => ?_)
  simp only [aJ_v]
  refine aL1_run (R := fun o => OK o _) (fun m s1 g => ∃ i, i ≤ T 433 k ∧ m = T 433 k - i ∧ s1 = nI i ∧ Fr (fun o => o = 179) h g ∧ (∀ j, j < i → badE T S k set j = false) ∧ ∀ s, s < 32 → h_iv g 179 s = nI (fb_ct (fun j => s.testBit (tC T k set i j)) (nC T k set i))) ⟨0, Nat.zero_le _, rfl, rfl, F0, fun j hj => absurd hj (Nat.not_lt_zero j), fun s hs => v0 s hs⟩ (by omega) ?_
  rintro rec m s1 g ⟨i, hi, rfl, rfl, hF, hb, hv⟩ ih
  have S1 := hF.sh hS
  have y1 := y.fr hF hD (fun o q1 q2 q3 => by omega)
  by_cases hlt : i < T 433 k
  · have he : enK T k i < T 412 10 := hD.ke k hk i hlt
    have s3 : h_iv g 175 i = nI (plS T S k (plF T S k i) i) := by rw [hF.iv (by decide)]; exact hst i hlt
    have sl := plS_lt (T := T) (S := S) (k := k) (A := plF T S k i) (i := i)
    have yk : h_iv g (P + 49 + 3 * k) i = nI (enK T k i) := y1.ke k hk i hlt
    have bad : badE T S k set i = true → OK (some (nI 0, g)) (fun r h1 => r = b2i (cld T S k set) ∧ Fr (fun o => o = 179) h h1) := fun hq => by
      refine ok_ret ⟨?_, hF⟩
      have : anyB (badE T S k set) (T 433 k) = true := anyB_t.mpr ⟨i, hlt, hq⟩
      unfold cld
      rw [this]
      rfl
    simp (maxSteps := 3000000) (disch := first | assumption | omega) only [m_X4_couldLeaveTogether_L10, bO_v, bR_v, bX_l, bX_r, bC_l, bC_r, aJ_v, aLet_v, nI_add, pk_mul, dvI_n, rmI_n, iMax_n, iMin_n, zO_0, zO_1, li_0, li_1, li_2, li_3, li_4, li_5, li_6, li_7, li_8, li_9, li_10, li_12, li_14, li_15, li_16, li_18, li_19, li_20, li_22, li_23, li_24, li_26, li_29, li_30, li_31, li_32, li_36, li_38, li_48, li_50, li_57, li_58, li_59, li_60, li_63, li_97, li_99, li_120, li_122, li_144, li_168, li_194, li_240, li_255, li_284, li_299, li_603, li_999, li_1200, li_1440, li_4095, li_4096, li_6030, li_16384, li_20160, zl0, zl1, zl2, zl3, zl4, ze01, ze02, ze03, ze04, ze10, ze12, ze13, ze14, ze20, ze21, ze23, ze24, ze30, ze31, ze32, ze34, ze40, ze41, ze42, ze43, zt0, zt1, zt2, zt3, zt4, zq0, zq1, zq2, zq3, zq4, it_t, it_f, Bool.true_eq_false, Bool.false_eq_true, na5, na4, na1441, na2, na10, sx_IOIA, sx_IOIS, sx_IONS, sx_IAIO, sx_IAIS, sx_IANS, sx_ISIO, sx_ISIA, sx_ISNS, sx_NSIO, sx_NSIA, sx_NSIS, p_ek_gi S1 hP, y1.ken k hk, nI_ltI, k_has, b2i_0, c_pu2 S1, c_cu2_al S1, s3, nI_eq]
    rw [if_pos hlt]
    cases cb : set.testBit i
    · rw [if_pos rfl]
      refine ih _ _ _ (by omega) ⟨i + 1, hlt, rfl, rfl, hF, fun j hj => ?_, fun s hs => ?_⟩
      · by_cases c : j = i
        · rw [c]; unfold badE; rw [cb]; rfl
        · exact hb j (by omega)
      · rw [hv s hs, nC, tC, cb, if_neg (by decide), if_neg (by decide), Nat.add_zero]
    · rw [if_neg (by decide)]
      by_cases c1 : plS T S k (plF T S k i) i = 1
      · rw [if_pos c1]
        exact bad (by unfold badE; rw [cb, (stv i).mp c1]; rfl)
      · rw [if_neg c1]
        have r0 : rstd S (enK T k i) = false := by
          cases q : rstd S (enK T k i)
          · rfl
          · exact absurd ((stv i).mpr q) c1
        by_cases c2 : plS T S k (plF T S k i) i = 2
        · rw [if_pos c2]
          exact bad (by unfold badE; rw [cb, (stv2 i r0).mp c2, Bool.or_true]; rfl)
        · rw [if_neg c2]
          have e0 : eout S (enK T k i) = false := by
            cases q : eout S (enK T k i)
            · rfl
            · exact absurd ((stv2 i r0).mpr q) c2
          have nb := nC_le hD (set := set) hk (i := i) (by omega)
          simp (maxSteps := 3000000) (disch := first | assumption | omega) only [bO_v, bR_v, bX_l, bX_r, bC_l, bC_r, aLet_v, nI_add, pk_mul, dvI_n, rmI_n, iMax_n, iMin_n, zO_0, zO_1, li_0, li_1, li_2, li_3, li_4, li_5, li_6, li_7, li_8, li_9, li_10, li_12, li_14, li_15, li_16, li_18, li_19, li_20, li_22, li_23, li_24, li_26, li_29, li_30, li_31, li_32, li_36, li_38, li_48, li_50, li_57, li_58, li_59, li_60, li_63, li_97, li_99, li_120, li_122, li_144, li_168, li_194, li_240, li_255, li_284, li_299, li_603, li_999, li_1200, li_1440, li_4095, li_4096, li_6030, li_16384, li_20160, zl0, zl1, zl2, zl3, zl4, ze01, ze02, ze03, ze04, ze10, ze12, ze13, ze14, ze20, ze21, ze23, ze24, ze30, ze31, ze32, ze34, ze40, ze41, ze42, ze43, zt0, zt1, zt2, zt3, zt4, zq0, zq1, zq2, zq3, zq4, it_t, it_f, Bool.true_eq_false, Bool.false_eq_true, na5, na4, na1441, na2, na10, sx_IOIA, sx_IOIS, sx_IONS, sx_IAIO, sx_IAIS, sx_IANS, sx_ISIO, sx_ISIA, sx_ISNS, sx_NSIO, sx_NSIA, sx_NSIS, mp hF, p_pes S1 hP, p_eke_p S1 hP, p_eke_al S1 hP, yk, p_ee_al S1 hP]
          refine k_couldL67 (R := fun o => OK o _) S1 hP y1 hD he (by omega) hv (fun g2 F2 v2 => ?_)
          refine ih _ _ _ (by omega) ⟨i + 1, hlt, rfl, rfl, hF.trans F2, fun j hj => ?_, fun s hs => ?_⟩
          · by_cases c : j = i
            · rw [c]; unfold badE; rw [cb, r0, e0]; rfl
            · exact hb j (by omega)
          · rw [v2 s hs, nC, cb, if_pos rfl, fb_ct_split]
            congr 2
            · exact fb_ct_cong (fun j hj => by rw [tC_old hj])
            · exact fb_ct_cong (fun j hj => by rw [tC_new cb])
  · obtain rfl : i = T 433 k := by omega
    have nb := nC_le hD (set := set) hk (Nat.le_refl (T 433 k))
    have mm := k_mostManned S1 hP y1 hD (c_cu6 S1).1 (c_cu6 S1).2 hv (tC_lt k set _) (by omega) cl
    have e31 : fb_ct (fun j => (31 : Nat).testBit (tC T k set (T 433 k) j)) (nC T k set (T 433 k)) = nC T k set (T 433 k) := fb_ct_all.mpr (fun j _ => by
      have hh : ∀ j, j < 5 → (31 : Nat).testBit j = true := by decide
      exact hh _ (tC_lt k set _ j))
    have v31 := hv 31 (by decide)
    rw [e31] at v31
    have c4 : h_iv g 172 4 = nI (com T S k) := by rw [hF.iv (by decide)]; exact hc
    have rl := rk_le (tC T k set (T 433 k)) (Kc T) (nC T k set (T 433 k)) (com T S k)
    have nb0 : anyB (badE T S k set) (T 433 k) = false := anyB_f.mpr hb
    simp (maxSteps := 3000000) (disch := first | assumption | omega) only [m_X4_couldLeaveTogether_L10, bO_v, bR_v, bX_l, bX_r, bC_l, bC_r, aLet_v, nI_add, pk_mul, dvI_n, rmI_n, iMax_n, iMin_n, zO_0, zO_1, li_0, li_1, li_2, li_3, li_4, li_5, li_6, li_7, li_8, li_9, li_10, li_12, li_14, li_15, li_16, li_18, li_19, li_20, li_22, li_23, li_24, li_26, li_29, li_30, li_31, li_32, li_36, li_38, li_48, li_50, li_57, li_58, li_59, li_60, li_63, li_97, li_99, li_120, li_122, li_144, li_168, li_194, li_240, li_255, li_284, li_299, li_603, li_999, li_1200, li_1440, li_4095, li_4096, li_6030, li_16384, li_20160, zl0, zl1, zl2, zl3, zl4, ze01, ze02, ze03, ze04, ze10, ze12, ze13, ze14, ze20, ze21, ze23, ze24, ze30, ze31, ze32, ze34, ze40, ze41, ze42, ze43, zt0, zt1, zt2, zt3, zt4, zq0, zq1, zq2, zq3, zq4, it_t, it_f, Bool.true_eq_false, Bool.false_eq_true, na5, na4, na1441, na2, na10, sx_IOIA, sx_IOIS, sx_IONS, sx_IAIO, sx_IAIS, sx_IANS, sx_ISIO, sx_ISIA, sx_ISNS, sx_NSIO, sx_NSIA, sx_NSIS, p_ek_gi S1 hP, y1.ken k hk, nI_ltI, hk104]
    rw [if_neg hlt]
    simp (maxSteps := 3000000) (disch := first | assumption | omega) only [bO_v, bR_v, bX_l, bX_r, bC_l, bC_r, aJ_v, aLet_v, nI_add, pk_mul, dvI_n, rmI_n, iMax_n, iMin_n, zO_0, zO_1, li_0, li_1, li_2, li_3, li_4, li_5, li_6, li_7, li_8, li_9, li_10, li_12, li_14, li_15, li_16, li_18, li_19, li_20, li_22, li_23, li_24, li_26, li_29, li_30, li_31, li_32, li_36, li_38, li_48, li_50, li_57, li_58, li_59, li_60, li_63, li_97, li_99, li_120, li_122, li_144, li_168, li_194, li_240, li_255, li_284, li_299, li_603, li_999, li_1200, li_1440, li_4095, li_4096, li_6030, li_16384, li_20160, zl0, zl1, zl2, zl3, zl4, ze01, ze02, ze03, ze04, ze10, ze12, ze13, ze14, ze20, ze21, ze23, ze24, ze30, ze31, ze32, ze34, ze40, ze41, ze42, ze43, zt0, zt1, zt2, zt3, zt4, zq0, zq1, zq2, zq3, zq4, it_t, it_f, Bool.true_eq_false, Bool.false_eq_true, na5, na4, na1441, na2, na10, sx_IOIA, sx_IOIS, sx_IONS, sx_IAIO, sx_IAIS, sx_IANS, sx_ISIO, sx_ISIA, sx_ISNS, sx_NSIO, sx_NSIA, sx_NSIS, mp hF, c_pu6 S1, c_cU_gi S1, c4, p_cP_gS S1 hP, mm, c_cu6_al S1, v31, nI_eq]
    unfold cld
    rw [nb0]
    by_cases c : rk (tC T k set (T 433 k)) (Kc T) (nC T k set (T 433 k)) (com T S k) = nC T k set (T 433 k)
    · rw [if_pos c, decide_eq_true c]
      exact ok_ret ⟨rfl, hF⟩
    · rw [if_neg c, decide_eq_false c]
      exact ok_ret ⟨rfl, hF⟩
theorem k_mostTogether (hS : Sh h) (hP : P ∈ plL) (pl : h_rv h 172 1 = P) (y : PlR h P T) (hD : PlD T) {k : Nat} (hk : k < T 412 11) (hc : h_iv h 172 4 = nI (com T S k)) (hst : ∀ i, i < T 433 k → h_iv h 175 i = nI (plS T S k (plF T S k i) i)) :
    OK (m_X4_mostTogether 172 (P + 47 + 3 * k) h) (fun r h1 => r = nI (mxB (cld T S k) (2 ^ T 433 k)) ∧ Fr (fun o => o = 179) h h1) := by
  have d0 := hD.nP
  have d2 := hD.nK
  have d3 := hD.ken k hk
  have p1 := pl_in P hP
  have pw : 2 ^ T 433 k ≤ 32 := Nat.pow_le_pow_right (show 1 ≤ 2 by decide) (show T 433 k ≤ 5 by omega)
  have sh := shl1_n (j := T 433 k) (by omega)
  have mb : ∀ c, mxB (cld T S k) c ≤ 12 := fun c => by
    rcases mxB_in (f := cld T S k) c with q | ⟨m, q1, q2, q3⟩
    · omega
    · rw [q3]; exact fb_ct_le _ 12
  simp only [m_X4_mostTogether, bO_v, bR_v, bX_l, bX_r, bC_l, bC_r, aLet_v, nI_add, pk_mul, dvI_n, rmI_n, iMax_n, iMin_n, zO_0, zO_1, li_0, li_1, li_2, li_3, li_4, li_5, li_6, li_7, li_8, li_9, li_10, li_12, li_14, li_15, li_16, li_18, li_19, li_20, li_22, li_23, li_24, li_26, li_29, li_30, li_31, li_32, li_36, li_38, li_48, li_50, li_57, li_58, li_59, li_60, li_63, li_97, li_99, li_120, li_122, li_144, li_168, li_194, li_240, li_255, li_284, li_299, li_603, li_999, li_1200, li_1440, li_4095, li_4096, li_6030, li_16384, li_20160, zl0, zl1, zl2, zl3, zl4, ze01, ze02, ze03, ze04, ze10, ze12, ze13, ze14, ze20, ze21, ze23, ze24, ze30, ze31, ze32, ze34, ze40, ze41, ze42, ze43, zt0, zt1, zt2, zt3, zt4, zq0, zq1, zq2, zq3, zq4, it_t, it_f, Bool.true_eq_false, Bool.false_eq_true, na5, na4, na1441, na2, na10, sx_IOIA, sx_IOIS, sx_IONS, sx_IAIO, sx_IAIS, sx_IANS, sx_ISIO, sx_ISIA, sx_ISNS, sx_NSIO, sx_NSIA, sx_NSIS, aJ_v]
  refine aL2_run (R := fun o => OK o _) (fun m s1 s2 g => ∃ c, c ≤ 2 ^ T 433 k ∧ m = 2 ^ T 433 k - c ∧ s2 = nI c ∧ s1 = nI (mxB (cld T S k) c) ∧ Fr (fun o => o = 179) h g) ⟨0, Nat.zero_le _, rfl, rfl, rfl, Fr.rf⟩ (by omega) ?_
  rintro rec m s1 s2 g ⟨c, hc9, rfl, rfl, rfl, hF⟩ ih
  have S1 := hF.sh hS
  have y1 := y.fr hF hD (fun o q1 q2 q3 => by omega)
  have mbc := mb c
  by_cases hlt : c < 2 ^ T 433 k
  · have sb : sz c ≤ 12 := fb_ct_le _ 12
    have bc : ∀ g, m_J6_bitCount_0f7a4 (nI c) g = some (nI (sz c), g) := fun g => k_bitCount (by omega)
    simp (maxSteps := 3000000) (disch := first | assumption | omega) only [m_X4_mostTogether_L4, bO_v, bR_v, bX_l, bX_r, bC_l, bC_r, aLet_v, nI_add, pk_mul, dvI_n, rmI_n, iMax_n, iMin_n, zO_0, zO_1, li_0, li_1, li_2, li_3, li_4, li_5, li_6, li_7, li_8, li_9, li_10, li_12, li_14, li_15, li_16, li_18, li_19, li_20, li_22, li_23, li_24, li_26, li_29, li_30, li_31, li_32, li_36, li_38, li_48, li_50, li_57, li_58, li_59, li_60, li_63, li_97, li_99, li_120, li_122, li_144, li_168, li_194, li_240, li_255, li_284, li_299, li_603, li_999, li_1200, li_1440, li_4095, li_4096, li_6030, li_16384, li_20160, zl0, zl1, zl2, zl3, zl4, ze01, ze02, ze03, ze04, ze10, ze12, ze13, ze14, ze20, ze21, ze23, ze24, ze30, ze31, ze32, ze34, ze40, ze41, ze42, ze43, zt0, zt1, zt2, zt3, zt4, zq0, zq1, zq2, zq3, zq4, it_t, it_f, Bool.true_eq_false, Bool.false_eq_true, na5, na4, na1441, na2, na10, sx_IOIA, sx_IOIS, sx_IONS, sx_IAIO, sx_IAIS, sx_IANS, sx_ISIO, sx_ISIA, sx_ISNS, sx_NSIO, sx_NSIA, sx_NSIS, p_ek_gi S1 hP, y1.ken k hk, sh, nI_ltI, bc, nI_leI, c_cU_gS S1]
    rw [if_pos hlt]
    refine aJ_gen (R := fun o => OK o _) (fun k36 hk36 => ?_)
    have next : ∀ v g2, Fr (fun o => o = 179) h g2 → v = mxB (cld T S k) (c + 1) → OK (k36 (nI v) g2) (fun r h1 => r = nI (mxB (cld T S k) (2 ^ T 433 k)) ∧ Fr (fun o => o = 179) h h1) := fun v g2 F2 hv => by
      rw [hk36]
      simp only [bO_v, bR_v, bX_l, bX_r, bC_l, bC_r, aLet_v, nI_add, pk_mul, dvI_n, rmI_n, iMax_n, iMin_n, zO_0, zO_1, li_0, li_1, li_2, li_3, li_4, li_5, li_6, li_7, li_8, li_9, li_10, li_12, li_14, li_15, li_16, li_18, li_19, li_20, li_22, li_23, li_24, li_26, li_29, li_30, li_31, li_32, li_36, li_38, li_48, li_50, li_57, li_58, li_59, li_60, li_63, li_97, li_99, li_120, li_122, li_144, li_168, li_194, li_240, li_255, li_284, li_299, li_603, li_999, li_1200, li_1440, li_4095, li_4096, li_6030, li_16384, li_20160, zl0, zl1, zl2, zl3, zl4, ze01, ze02, ze03, ze04, ze10, ze12, ze13, ze14, ze20, ze21, ze23, ze24, ze30, ze31, ze32, ze34, ze40, ze41, ze42, ze43, zt0, zt1, zt2, zt3, zt4, zq0, zq1, zq2, zq3, zq4, it_t, it_f, Bool.true_eq_false, Bool.false_eq_true, na5, na4, na1441, na2, na10, sx_IOIA, sx_IOIS, sx_IONS, sx_IAIO, sx_IAIS, sx_IANS, sx_ISIO, sx_ISIA, sx_ISNS, sx_NSIO, sx_NSIA, sx_NSIS]
      exact ih _ _ _ _ (by omega) ⟨c + 1, hlt, rfl, rfl, by rw [hv], F2⟩
    by_cases c1 : sz c ≤ mxB (cld T S k) c
    · rw [if_pos c1]
      exact next _ g hF (by rw [mxB, if_neg (fun q => by omega)])
    · rw [if_neg c1]
      refine ok_bR (k_could S1 hP (by rw [hF.rv]; exact pl) y1 hD hk (by omega) (by rw [hF.iv (by decide)]; exact hc) (fun i hi => by rw [hF.iv (by decide)]; exact hst i hi)) (fun r g2 hh => ?_)
      obtain ⟨rfl, F2⟩ := hh
      simp (maxSteps := 3000000) (disch := first | assumption | omega) only [bO_v, bR_v, bX_l, bX_r, bC_l, bC_r, aLet_v, nI_add, pk_mul, dvI_n, rmI_n, iMax_n, iMin_n, zO_0, zO_1, li_0, li_1, li_2, li_3, li_4, li_5, li_6, li_7, li_8, li_9, li_10, li_12, li_14, li_15, li_16, li_18, li_19, li_20, li_22, li_23, li_24, li_26, li_29, li_30, li_31, li_32, li_36, li_38, li_48, li_50, li_57, li_58, li_59, li_60, li_63, li_97, li_99, li_120, li_122, li_144, li_168, li_194, li_240, li_255, li_284, li_299, li_603, li_999, li_1200, li_1440, li_4095, li_4096, li_6030, li_16384, li_20160, zl0, zl1, zl2, zl3, zl4, ze01, ze02, ze03, ze04, ze10, ze12, ze13, ze14, ze20, ze21, ze23, ze24, ze30, ze31, ze32, ze34, ze40, ze41, ze42, ze43, zt0, zt1, zt2, zt3, zt4, zq0, zq1, zq2, zq3, zq4, it_t, it_f, Bool.true_eq_false, Bool.false_eq_true, na5, na4, na1441, na2, na10, sx_IOIA, sx_IOIS, sx_IONS, sx_IAIO, sx_IAIS, sx_IANS, sx_ISIO, sx_ISIA, sx_ISNS, sx_NSIO, sx_NSIA, sx_NSIS, b2i_0, bc]
      by_cases c2 : cld T S k c = false
      · rw [if_pos c2]
        exact next _ g2 (hF.trans F2) (by rw [mxB, if_neg (fun q => by rw [c2] at q; cases q.1)])
      · rw [if_neg c2]
        exact next _ g2 (hF.trans F2) (by rw [mxB, if_pos ⟨by simpa using c2, by omega⟩])
  · obtain rfl : c = 2 ^ T 433 k := by omega
    simp (maxSteps := 3000000) (disch := first | assumption | omega) only [m_X4_mostTogether_L4, bO_v, bR_v, bX_l, bX_r, bC_l, bC_r, aLet_v, nI_add, pk_mul, dvI_n, rmI_n, iMax_n, iMin_n, zO_0, zO_1, li_0, li_1, li_2, li_3, li_4, li_5, li_6, li_7, li_8, li_9, li_10, li_12, li_14, li_15, li_16, li_18, li_19, li_20, li_22, li_23, li_24, li_26, li_29, li_30, li_31, li_32, li_36, li_38, li_48, li_50, li_57, li_58, li_59, li_60, li_63, li_97, li_99, li_120, li_122, li_144, li_168, li_194, li_240, li_255, li_284, li_299, li_603, li_999, li_1200, li_1440, li_4095, li_4096, li_6030, li_16384, li_20160, zl0, zl1, zl2, zl3, zl4, ze01, ze02, ze03, ze04, ze10, ze12, ze13, ze14, ze20, ze21, ze23, ze24, ze30, ze31, ze32, ze34, ze40, ze41, ze42, ze43, zt0, zt1, zt2, zt3, zt4, zq0, zq1, zq2, zq3, zq4, it_t, it_f, Bool.true_eq_false, Bool.false_eq_true, na5, na4, na1441, na2, na10, sx_IOIA, sx_IOIS, sx_IONS, sx_IAIO, sx_IAIS, sx_IANS, sx_ISIO, sx_ISIA, sx_ISNS, sx_NSIO, sx_NSIA, sx_NSIS, p_ek_gi S1 hP, y1.ken k hk, sh, nI_ltI]
    rw [if_neg hlt]
    exact ok_ret ⟨rfl, hF⟩
/-- the reference's joins, engine by engine -/
theorem r_mostL200 (hS : Sh h) (z : RefR h T) (hD : PlD T) {k set i cm : Nat} (hk : k < T 412 11) (hi : i < T 433 k) (hset : set < 32) (hc : h_iv h 412 63 = nI cm) (hcm : cm < 4096) (v : ∀ m, m < 4096 → h_iv h 461 m = b2i (rcB (tC T k set i) (Kc T) cm true (T 412 8) (nC T k set i) m)) {k240 : aH → Option (Int32 × aH)} {R : Option (Int32 × aH) → Prop}
    (hk2 : ∀ h1, Fr JNx h h1 → (∀ m, m < 4096 → h_iv h1 461 m = b2i (rcB (tC T k set (i + 1)) (Kc T) cm true (T 412 8) (nC T k set (i + 1)) m)) → R (k240 h1)) : R (aL1 (m_X12_mostEngines_L200 412 (nI set) (nI i) (nI (enK T k i)) k240) FU (nI 0) h) := by
  have d1 := hD.nE
  have d3 := hD.ken k hk
  have he : enK T k i < T 412 10 := hD.ke k hk i hi
  have d5 := hD.pst _ he
  have bq : (((nI set >>> (nI i &&& nI 31)) &&& nI 1 = nI 0) ↔ set.testBit i = false) := bit_n (by omega) (by omega)
  refine aL1_run (fun n s1 g => ∃ j, j ≤ T 426 (enK T k i) ∧ n = T 426 (enK T k i) - j ∧ s1 = nI j ∧ Fr JNx h g ∧ (set.testBit i = false → j = 0) ∧ ∀ m, m < 4096 → h_iv g 461 m = b2i (rcB (tC T k set (i + 1)) (Kc T) cm true (T 412 8) (nC T k set i + j) m)) ⟨0, Nat.zero_le _, rfl, rfl, Fr.rf, fun _ => rfl, fun m hm => (v m hm).trans (congrArg b2i (rcB_cong (fun j hj => (tC_old hj).symm)))⟩ (by omega) ?_
  rintro rec n s1 g ⟨j, hj, rfl, rfl, hF, h0, hv⟩ ih
  have S1 := hF.sh hS
  have z1 := z.fr hF (fun o q1 q2 q3 q4 => by unfold JNx at q4; omega)
  have c1 : h_iv g 412 63 = nI cm := by rw [hF.iv (by unfold JNx; omega)]; exact hc
  by_cases hlt : j < T 426 (enK T k i)
  · simp (maxSteps := 3000000) (disch := first | assumption | omega) only [m_X12_mostEngines_L200, bO_v, bR_v, bX_l, bX_r, bC_l, bC_r, aLet_v, nI_add, pk_mul, dvI_n, rmI_n, iMax_n, iMin_n, zO_0, zO_1, li_0, li_1, li_2, li_3, li_4, li_5, li_6, li_7, li_8, li_9, li_10, li_12, li_14, li_15, li_16, li_18, li_19, li_20, li_22, li_23, li_24, li_26, li_29, li_30, li_31, li_32, li_36, li_38, li_48, li_50, li_57, li_58, li_59, li_60, li_63, li_97, li_99, li_120, li_122, li_144, li_168, li_194, li_240, li_255, li_284, li_299, li_603, li_999, li_1200, li_1440, li_4095, li_4096, li_6030, li_16384, li_20160, zl0, zl1, zl2, zl3, zl4, ze01, ze02, ze03, ze04, ze10, ze12, ze13, ze14, ze20, ze21, ze23, ze24, ze30, ze31, ze32, ze34, ze40, ze41, ze42, ze43, zt0, zt1, zt2, zt3, zt4, zq0, zq1, zq2, zq3, zq4, it_t, it_f, Bool.true_eq_false, Bool.false_eq_true, na5, na4, na1441, na2, na10, sx_IOIA, sx_IOIS, sx_IONS, sx_IAIO, sx_IAIS, sx_IANS, sx_ISIO, sx_ISIA, sx_ISNS, sx_NSIO, sx_NSIA, sx_NSIS, r_p426 S1, r_c426_al S1, z1.c426, nI_ltI, bq, r_cM_gi S1, c1, r_cM_gS S1]
    rw [if_pos hlt]
    by_cases cb : set.testBit i = false
    · rw [if_pos cb]
      have j0 := h0 cb
      refine hk2 g hF (fun m hm => ?_)
      rw [hv m hm, j0, nC, cb, if_neg (by decide)]
    · rw [if_neg cb]
      have ct : set.testBit i = true := by simpa using cb
      obtain ⟨_, g2, e2, F2, v2⟩ := r_joins S1 z1 hD he hlt hcm (all := true) hv
      have e2' : m_X12_joins 412 (nI (enK T k i)) (nI j) (nI cm) (nI 1) g = some ((), g2) := e2
      simp (maxSteps := 3000000) (disch := first | assumption | omega) only [bO_v, bR_v, bX_l, bX_r, bC_l, bC_r, aLet_v, nI_add, pk_mul, dvI_n, rmI_n, iMax_n, iMin_n, zO_0, zO_1, li_0, li_1, li_2, li_3, li_4, li_5, li_6, li_7, li_8, li_9, li_10, li_12, li_14, li_15, li_16, li_18, li_19, li_20, li_22, li_23, li_24, li_26, li_29, li_30, li_31, li_32, li_36, li_38, li_48, li_50, li_57, li_58, li_59, li_60, li_63, li_97, li_99, li_120, li_122, li_144, li_168, li_194, li_240, li_255, li_284, li_299, li_603, li_999, li_1200, li_1440, li_4095, li_4096, li_6030, li_16384, li_20160, zl0, zl1, zl2, zl3, zl4, ze01, ze02, ze03, ze04, ze10, ze12, ze13, ze14, ze20, ze21, ze23, ze24, ze30, ze31, ze32, ze34, ze40, ze41, ze42, ze43, zt0, zt1, zt2, zt3, zt4, zq0, zq1, zq2, zq3, zq4, it_t, it_f, Bool.true_eq_false, Bool.false_eq_true, na5, na4, na1441, na2, na10, sx_IOIA, sx_IOIS, sx_IONS, sx_IAIO, sx_IAIS, sx_IANS, sx_ISIO, sx_ISIA, sx_ISNS, sx_NSIO, sx_NSIA, sx_NSIS, e2']
      refine ih _ _ _ (by omega) ⟨j + 1, hlt, rfl, rfl, hF.trans F2, fun q => absurd q cb, fun m hm => ?_⟩
      rw [v2 m hm, ← Nat.add_assoc, rcB, tC_new ct]
      rfl
  · obtain rfl : j = T 426 (enK T k i) := by omega
    simp (maxSteps := 3000000) (disch := first | assumption | omega) only [m_X12_mostEngines_L200, bO_v, bR_v, bX_l, bX_r, bC_l, bC_r, aLet_v, nI_add, pk_mul, dvI_n, rmI_n, iMax_n, iMin_n, zO_0, zO_1, li_0, li_1, li_2, li_3, li_4, li_5, li_6, li_7, li_8, li_9, li_10, li_12, li_14, li_15, li_16, li_18, li_19, li_20, li_22, li_23, li_24, li_26, li_29, li_30, li_31, li_32, li_36, li_38, li_48, li_50, li_57, li_58, li_59, li_60, li_63, li_97, li_99, li_120, li_122, li_144, li_168, li_194, li_240, li_255, li_284, li_299, li_603, li_999, li_1200, li_1440, li_4095, li_4096, li_6030, li_16384, li_20160, zl0, zl1, zl2, zl3, zl4, ze01, ze02, ze03, ze04, ze10, ze12, ze13, ze14, ze20, ze21, ze23, ze24, ze30, ze31, ze32, ze34, ze40, ze41, ze42, ze43, zt0, zt1, zt2, zt3, zt4, zq0, zq1, zq2, zq3, zq4, it_t, it_f, Bool.true_eq_false, Bool.false_eq_true, na5, na4, na1441, na2, na10, sx_IOIA, sx_IOIS, sx_IONS, sx_IAIO, sx_IAIS, sx_IANS, sx_ISIO, sx_ISIA, sx_ISNS, sx_NSIO, sx_NSIA, sx_NSIS, r_p426 S1, r_c426_al S1, z1.c426, nI_ltI]
    rw [if_neg hlt]
    have ct : set.testBit i = true := by
      cases q : set.testBit i
      · have := h0 q; omega
      · rfl
    exact hk2 g hF (fun m hm => by rw [hv m hm, nC, ct, if_pos rfl])
theorem r_mostL173 (hS : Sh h) (z : RefR h T) (hD : PlD T) {k set cm : Nat} (hk : k < T 412 11) (hset : set < 32) (hc : h_iv h 412 63 = nI cm) (hcm : cm < 4096) (v : ∀ m, m < 4096 → h_iv h 461 m = b2i (decide (m = 0))) {k246 : aH → Option (Int32 × aH)} {R : Option (Int32 × aH) → Prop}
    (hk2 : ∀ h1, Fr JNx h h1 → (∀ m, m < 4096 → h_iv h1 461 m = b2i (rcB (tC T k set (T 433 k)) (Kc T) cm true (T 412 8) (nC T k set (T 433 k)) m)) → R (k246 h1)) : R (aL1 (m_X12_mostEngines_L173 412 (nI k) (nI set) k246) FU (nI 0) h) := by
  have d2 := hD.nK
  have d3 := hD.ken k hk
  refine aL1_run (fun n s1 g => ∃ i, i ≤ T 433 k ∧ n = T 433 k - i ∧ s1 = nI i ∧ Fr JNx h g ∧ ∀ m, m < 4096 → h_iv g 461 m = b2i (rcB (tC T k set i) (Kc T) cm true (T 412 8) (nC T k set i) m)) ⟨0, Nat.zero_le _, rfl, rfl, Fr.rf, v⟩ (by omega) ?_
  rintro rec n s1 g ⟨i, hi, rfl, rfl, hF, hv⟩ ih
  have S1 := hF.sh hS
  have z1 := z.fr hF (fun o q1 q2 q3 q4 => by unfold JNx at q4; omega)
  have c1 : h_iv g 412 63 = nI cm := by rw [hF.iv (by unfold JNx; omega)]; exact hc
  by_cases hlt : i < T 433 k
  · have e4 : h_iv g 434 (5 * k + i) = nI (enK T k i) := z1.c434 _
    simp (maxSteps := 3000000) (disch := first | assumption | omega) only [m_X12_mostEngines_L173, bO_v, bR_v, bX_l, bX_r, bC_l, bC_r, aLet_v, nI_add, pk_mul, dvI_n, rmI_n, iMax_n, iMin_n, zO_0, zO_1, li_0, li_1, li_2, li_3, li_4, li_5, li_6, li_7, li_8, li_9, li_10, li_12, li_14, li_15, li_16, li_18, li_19, li_20, li_22, li_23, li_24, li_26, li_29, li_30, li_31, li_32, li_36, li_38, li_48, li_50, li_57, li_58, li_59, li_60, li_63, li_97, li_99, li_120, li_122, li_144, li_168, li_194, li_240, li_255, li_284, li_299, li_603, li_999, li_1200, li_1440, li_4095, li_4096, li_6030, li_16384, li_20160, zl0, zl1, zl2, zl3, zl4, ze01, ze02, ze03, ze04, ze10, ze12, ze13, ze14, ze20, ze21, ze23, ze24, ze30, ze31, ze32, ze34, ze40, ze41, ze42, ze43, zt0, zt1, zt2, zt3, zt4, zq0, zq1, zq2, zq3, zq4, it_t, it_f, Bool.true_eq_false, Bool.false_eq_true, na5, na4, na1441, na2, na10, sx_IOIA, sx_IOIS, sx_IONS, sx_IAIO, sx_IAIS, sx_IANS, sx_ISIO, sx_ISIA, sx_ISNS, sx_NSIO, sx_NSIA, sx_NSIS, r_p433 S1, r_c433_al S1, z1.c433, nI_ltI, r_p434 S1, r_c434_al S1, e4]
    rw [if_pos hlt]
    refine aJ_gen (fun k240 hk240 => ?_)
    refine r_mostL200 S1 z1 hD hk hlt hset c1 hcm hv (fun g2 F2 v2 => ?_)
    rw [hk240]
    simp only [bO_v, bR_v, bX_l, bX_r, bC_l, bC_r, aLet_v, nI_add, pk_mul, dvI_n, rmI_n, iMax_n, iMin_n, zO_0, zO_1, li_0, li_1, li_2, li_3, li_4, li_5, li_6, li_7, li_8, li_9, li_10, li_12, li_14, li_15, li_16, li_18, li_19, li_20, li_22, li_23, li_24, li_26, li_29, li_30, li_31, li_32, li_36, li_38, li_48, li_50, li_57, li_58, li_59, li_60, li_63, li_97, li_99, li_120, li_122, li_144, li_168, li_194, li_240, li_255, li_284, li_299, li_603, li_999, li_1200, li_1440, li_4095, li_4096, li_6030, li_16384, li_20160, zl0, zl1, zl2, zl3, zl4, ze01, ze02, ze03, ze04, ze10, ze12, ze13, ze14, ze20, ze21, ze23, ze24, ze30, ze31, ze32, ze34, ze40, ze41, ze42, ze43, zt0, zt1, zt2, zt3, zt4, zq0, zq1, zq2, zq3, zq4, it_t, it_f, Bool.true_eq_false, Bool.false_eq_true, na5, na4, na1441, na2, na10, sx_IOIA, sx_IOIS, sx_IONS, sx_IAIO, sx_IAIS, sx_IANS, sx_ISIO, sx_ISIA, sx_ISNS, sx_NSIO, sx_NSIA, sx_NSIS]
    exact ih _ _ _ (by omega) ⟨i + 1, hlt, rfl, rfl, hF.trans F2, v2⟩
  · obtain rfl : i = T 433 k := by omega
    simp (maxSteps := 3000000) (disch := first | assumption | omega) only [m_X12_mostEngines_L173, bO_v, bR_v, bX_l, bX_r, bC_l, bC_r, aLet_v, nI_add, pk_mul, dvI_n, rmI_n, iMax_n, iMin_n, zO_0, zO_1, li_0, li_1, li_2, li_3, li_4, li_5, li_6, li_7, li_8, li_9, li_10, li_12, li_14, li_15, li_16, li_18, li_19, li_20, li_22, li_23, li_24, li_26, li_29, li_30, li_31, li_32, li_36, li_38, li_48, li_50, li_57, li_58, li_59, li_60, li_63, li_97, li_99, li_120, li_122, li_144, li_168, li_194, li_240, li_255, li_284, li_299, li_603, li_999, li_1200, li_1440, li_4095, li_4096, li_6030, li_16384, li_20160, zl0, zl1, zl2, zl3, zl4, ze01, ze02, ze03, ze04, ze10, ze12, ze13, ze14, ze20, ze21, ze23, ze24, ze30, ze31, ze32, ze34, ze40, ze41, ze42, ze43, zt0, zt1, zt2, zt3, zt4, zq0, zq1, zq2, zq3, zq4, it_t, it_f, Bool.true_eq_false, Bool.false_eq_true, na5, na4, na1441, na2, na10, sx_IOIA, sx_IOIS, sx_IONS, sx_IAIO, sx_IAIS, sx_IANS, sx_ISIO, sx_ISIA, sx_ISNS, sx_NSIO, sx_NSIA, sx_NSIS, r_p433 S1, r_c433_al S1, z1.c433, nI_ltI]
    rw [if_neg hlt]
    exact hk2 g hF hv
end
section
variable {h : aH} {T : Nat → Nat → Nat} {P Q : Nat}
/-- the posts of the set, and whether all its engines stand ready -/
theorem r_mostL67 (hS : Sh h) (z : RefR h T) (hD : PlD T) {k set : Nat} (hk : k < T 412 11) (hset : set < 32) {k146 : Int32 → Int32 → aH → Option (Int32 × aH)} {R : Option (Int32 × aH) → Prop}
    (hk2 : R (k146 (nI (nC T k set (T 433 k))) (b2i (!anyB (badE T (T 413) k set) (T 433 k))) h)) : R (aL3 (m_X12_mostEngines_L67 412 (nI k) (nI set) k146) FU (nI 0) (nI 1) (nI 0) h) := by
  have d1 := hD.nE
  have d2 := hD.nK
  have d3 := hD.ken k hk
  refine aL3_run (fun n s1 s2 s3 g => g = h ∧ ∃ i, i ≤ T 433 k ∧ n = T 433 k - i ∧ s3 = nI i ∧ s1 = nI (nC T k set i) ∧ s2 = b2i (!anyB (badE T (T 413) k set) i)) ⟨rfl, 0, Nat.zero_le _, rfl, rfl, rfl, rfl⟩ (by omega) ?_
  rintro rec n s1 s2 s3 g ⟨rfl, i, hi, rfl, rfl, rfl, rfl⟩ ih
  by_cases hlt : i < T 433 k
  · have he : enK T k i < T 412 10 := hD.ke k hk i hlt
    have nb := nC_le hD (set := set) hk hi
    have e4 : h_iv g 434 (5 * k + i) = nI (enK T k i) := z.c434 _
    have bq : (((nI set >>> (nI i &&& nI 31)) &&& nI 1 = nI 0) ↔ set.testBit i = false) := bit_n (by omega) (by omega)
    simp (maxSteps := 3000000) (disch := first | assumption | omega) only [m_X12_mostEngines_L67, bO_v, bR_v, bX_l, bX_r, bC_l, bC_r, aLet_v, nI_add, pk_mul, dvI_n, rmI_n, iMax_n, iMin_n, zO_0, zO_1, li_0, li_1, li_2, li_3, li_4, li_5, li_6, li_7, li_8, li_9, li_10, li_12, li_14, li_15, li_16, li_18, li_19, li_20, li_22, li_23, li_24, li_26, li_29, li_30, li_31, li_32, li_36, li_38, li_48, li_50, li_57, li_58, li_59, li_60, li_63, li_97, li_99, li_120, li_122, li_144, li_168, li_194, li_240, li_255, li_284, li_299, li_603, li_999, li_1200, li_1440, li_4095, li_4096, li_6030, li_16384, li_20160, zl0, zl1, zl2, zl3, zl4, ze01, ze02, ze03, ze04, ze10, ze12, ze13, ze14, ze20, ze21, ze23, ze24, ze30, ze31, ze32, ze34, ze40, ze41, ze42, ze43, zt0, zt1, zt2, zt3, zt4, zq0, zq1, zq2, zq3, zq4, it_t, it_f, Bool.true_eq_false, Bool.false_eq_true, na5, na4, na1441, na2, na10, sx_IOIA, sx_IOIS, sx_IONS, sx_IAIO, sx_IAIS, sx_IANS, sx_ISIO, sx_ISIA, sx_ISNS, sx_NSIO, sx_NSIA, sx_NSIS, aJ_v, r_p433 hS, r_c433_al hS, z.c433, nI_ltI, r_p434 hS, r_c434_al hS, e4, bq, r_p426 hS, r_c426_al hS, z.c426, r_cM_gS hS, r_isRested hS z (show enK T k i < 5 by omega), r_isEngineOut hS z (show enK T k i < 5 by omega), b2i_0]
    rw [if_pos hlt]
    by_cases cb : set.testBit i = false
    · rw [if_pos cb]
      refine ih _ _ _ _ _ (by omega) ⟨rfl, i + 1, hlt, rfl, rfl, by rw [nC, cb, if_neg (by decide), Nat.add_zero], ?_⟩
      rw [anyB, show badE T (T 413) k set i = false by unfold badE; rw [cb]; rfl, Bool.or_false]
    · rw [if_neg cb]
      have ct : set.testBit i = true := by simpa using cb
      have en : nC T k set (i + 1) = nC T k set i + T 426 (enK T k i) := by rw [nC, ct, if_pos rfl]
      have bd : badE T (T 413) k set i = (rstd (T 413) (enK T k i) || eout (T 413) (enK T k i)) := by unfold badE; rw [ct]; rfl
      have step : ∀ b : Bool, (rstd (T 413) (enK T k i) || eout (T 413) (enK T k i)) = b → R (rec (nI (nC T k set i + T 426 (enK T k i))) (b2i (!anyB (badE T (T 413) k set) i) &&& b2i (!b)) (nI (i + 1)) g) := fun b hb => by
        refine ih _ _ _ _ _ (by omega) ⟨rfl, i + 1, hlt, rfl, rfl, by rw [en], ?_⟩
        rw [b2i_and, anyB, bd, hb, Bool.not_or]
      by_cases c1 : rstd (T 413) (enK T k i) = false
      · rw [if_pos c1]
        by_cases c2 : eout (T 413) (enK T k i) = false
        · rw [if_pos c2]
          exact step false (by rw [c1, c2]; rfl)
        · rw [if_neg c2]
          exact step true (by rw [show eout (T 413) (enK T k i) = true by simpa using c2, Bool.or_true])
      · rw [if_neg c1]
        exact step true (by rw [show rstd (T 413) (enK T k i) = true by simpa using c1, Bool.true_or])
  · obtain rfl : i = T 433 k := by omega
    simp (maxSteps := 3000000) (disch := first | assumption | omega) only [m_X12_mostEngines_L67, bO_v, bR_v, bX_l, bX_r, bC_l, bC_r, aLet_v, nI_add, pk_mul, dvI_n, rmI_n, iMax_n, iMin_n, zO_0, zO_1, li_0, li_1, li_2, li_3, li_4, li_5, li_6, li_7, li_8, li_9, li_10, li_12, li_14, li_15, li_16, li_18, li_19, li_20, li_22, li_23, li_24, li_26, li_29, li_30, li_31, li_32, li_36, li_38, li_48, li_50, li_57, li_58, li_59, li_60, li_63, li_97, li_99, li_120, li_122, li_144, li_168, li_194, li_240, li_255, li_284, li_299, li_603, li_999, li_1200, li_1440, li_4095, li_4096, li_6030, li_16384, li_20160, zl0, zl1, zl2, zl3, zl4, ze01, ze02, ze03, ze04, ze10, ze12, ze13, ze14, ze20, ze21, ze23, ze24, ze30, ze31, ze32, ze34, ze40, ze41, ze42, ze43, zt0, zt1, zt2, zt3, zt4, zq0, zq1, zq2, zq3, zq4, it_t, it_f, Bool.true_eq_false, Bool.false_eq_true, na5, na4, na1441, na2, na10, sx_IOIA, sx_IOIS, sx_IONS, sx_IAIO, sx_IAIS, sx_IANS, sx_ISIO, sx_ISIA, sx_ISNS, sx_NSIO, sx_NSIA, sx_NSIS, r_p433 hS, r_c433_al hS, z.c433, nI_ltI]
    rw [if_neg hlt]
    exact hk2
theorem q_mostEngines (I : IV h T P Q) (k : Int32) : QQ h T P Q (m_L_mostEngines 1 k 462 h) (m_X12_mostEngines 412 k) := by
  have hS := I.sh
  have hD := I.D
  have hR := I.R
  have hP := I.hP
  have y := I.y
  have d0 := hD.nP
  have d1 := hD.nG
  have d2 := hD.nE
  have d3 := hD.nK
  have d4 := hR.tm
  obtain ⟨a, ha, g5, x, -⟩ := I.st
  cases c : inr k (T 412 11)
  · refine ⟨1, 0, by decide, cq_exc ?_ (by decide), fun h1 I1 => ?_⟩
    · simp (maxSteps := 3000000) (disch := first | assumption | omega | exact hR.all _) only [m_L_mostEngines, m_X11_mostEngines, bO_v, bR_v, bX_l, bX_r, bC_l, bC_r, aJ_v, aLet_v, nI_add, pk_mul, dvI_n, rmI_n, iMax_n, iMin_n, zO_0, zO_1, li_0, li_1, li_2, li_3, li_4, li_5, li_6, li_7, li_8, li_9, li_10, li_12, li_14, li_15, li_16, li_18, li_19, li_20, li_22, li_23, li_24, li_26, li_29, li_30, li_31, li_32, li_36, li_38, li_48, li_50, li_57, li_58, li_59, li_60, li_63, li_97, li_99, li_120, li_122, li_144, li_168, li_194, li_240, li_255, li_284, li_299, li_603, li_999, li_1200, li_1440, li_4095, li_4096, li_6030, li_16384, li_20160, zl0, zl1, zl2, zl3, zl4, ze01, ze02, ze03, ze04, ze10, ze12, ze13, ze14, ze20, ze21, ze23, ze24, ze30, ze31, ze32, ze34, ze40, ze41, ze42, ze43, zt0, zt1, zt2, zt3, zt4, zq0, zq1, zq2, zq3, zq4, it_t, it_f, Bool.true_eq_false, Bool.false_eq_true, na5, na4, na1441, na2, na10, sx_IOIA, sx_IOIS, sx_IONS, sx_IAIO, sx_IAIS, sx_IANS, sx_ISIO, sx_ISIA, sx_ISNS, sx_NSIO, sx_NSIA, sx_NSIS, c_cX_gS hS, c_cX_gi hS, c_pmu hS, c_co_as hS, s_cS_gi hS ha, s_cS_gL hS ha, s_cS_pi hS ha, s_cS_pL hS ha, s_cS_gS hS ha, s_clost_al hS ha, s_clost_as hS ha, s_clost_ln hS ha, s_cout_al hS ha, s_cout_as hS ha, s_cout_ln hS ha, s_cpaid_al hS ha, s_cpaid_as hS ha, s_cpaid_ln hS ha, s_ctrust_al hS ha, s_ctrust_as hS ha, s_ctrust_ln hS ha, s_crot_al hS ha, s_crot_as hS ha, s_crot_ln hS ha, s_chands_al hS ha, s_chands_as hS ha, s_chands_ln hS ha, s_cto_al hS ha, s_cto_as hS ha, s_cto_ln hS ha, s_cends_al hS ha, s_cends_as hS ha, s_cends_ln hS ha, s_cret_al hS ha, s_cret_as hS ha, s_cret_ln hS ha, s_ccrew_al hS ha, s_ccrew_as hS ha, s_ccrew_ln hS ha, s_cL_gi hS ha, s_cL_gL hS ha, s_cL_pi hS ha, s_cL_pL hS ha, s_cL_gS hS ha, s_clcosts_al hS ha, s_clcosts_as hS ha, s_clcosts_ln hS ha, s_clcomers_al hS ha, s_clcomers_as hS ha, s_clcomers_ln hS ha, s_clleavers_al hS ha, s_clleavers_as hS ha, s_clleavers_ln hS ha, s_clengs_al hS ha, s_clengs_as hS ha, s_clengs_ln hS ha, s_cltimes_al hS ha, s_cltimes_as hS ha, s_cltimes_ln hS ha, s_clcrews_al hS ha, s_clcrews_as hS ha, s_clcrews_ln hS ha, s_cbest_al hS ha, s_cbest_as hS ha, s_cbest_ln hS ha, s_plost hS ha, s_pout hS ha, s_ppaid hS ha, s_ptrust hS ha, s_prot hS ha, s_phands hS ha, s_pto hS ha, s_pends hS ha, s_pret hS ha, s_pcrew hS ha, s_plog hS ha, s_plcosts hS ha, s_plcomers hS ha, s_plleavers hS ha, s_plengs hS ha, s_pltimes hS ha, s_plcrews hS ha, s_pbest hS ha, p_cP_gi hS hP, p_cP_gL hS hP, p_cP_pi hS hP, p_cP_pL hS hP, p_cP_gS hS hP, p_cN_gi hS hP, p_cN_gL hS hP, p_cN_pi hS hP, p_cN_pL hS hP, p_cN_gS hS hP, p_cps_ln hS hP, p_ctr_al hS hP, p_ctr_as hS hP, p_ctr_ln hS hP, p_cgs_ln hS hP, p_ces_ln hS hP, p_cks_ln hS hP, p_cable_al hS hP, p_cable_as hS hP, p_cable_ln hS hP, p_pN hS hP, p_pps hS hP, p_ptr hS hP, p_pgs hS hP, p_pes hS hP, p_pks hS hP, p_pable hS hP, p_ep_al hS hP, p_ep_gi hS hP, p_ep_gL hS hP, p_ep_pi hS hP, p_ep_pL hS hP, p_ep_gS hS hP, p_eg_al hS hP, p_eg_gi hS hP, p_eg_gL hS hP, p_eg_pi hS hP, p_eg_pL hS hP, p_eg_gS hS hP, p_egr_p hS hP, p_egr_al hS hP, p_egr_as hS hP, p_egr_ln hS hP, p_ee_al hS hP, p_ee_gi hS hP, p_ee_gL hS hP, p_ee_pi hS hP, p_ee_pL hS hP, p_ee_gS hS hP, p_ees_p hS hP, p_ees_al hS hP, p_ees_as hS hP, p_ees_ln hS hP, p_eed_p hS hP, p_eed_al hS hP, p_eed_as hS hP, p_eed_ln hS hP, p_ek_al hS hP, p_ek_gi hS hP, p_ek_gL hS hP, p_ek_pi hS hP, p_ek_pL hS hP, p_ek_gS hS hP, p_ekg_p hS hP, p_ekg_al hS hP, p_ekg_as hS hP, p_ekg_ln hS hP, p_eke_p hS hP, p_eke_al hS hP, p_eke_as hS hP, p_eke_ln hS hP, g5, I.g3, b2i_0, I.needPerson, I.needPager, I.needEngine, I.needKind, I.needCall, I.needTwo, c]
    · have S1 := I1.sh
      refine rq_exc (w := nI 0) ?_ (by decide)
      simp (maxSteps := 3000000) (disch := first | assumption | omega | exact hR.all _) only [m_X12_mostEngines, bO_v, bR_v, bX_l, bX_r, bC_l, bC_r, aJ_v, aLet_v, nI_add, pk_mul, dvI_n, rmI_n, iMax_n, iMin_n, zO_0, zO_1, li_0, li_1, li_2, li_3, li_4, li_5, li_6, li_7, li_8, li_9, li_10, li_12, li_14, li_15, li_16, li_18, li_19, li_20, li_22, li_23, li_24, li_26, li_29, li_30, li_31, li_32, li_36, li_38, li_48, li_50, li_57, li_58, li_59, li_60, li_63, li_97, li_99, li_120, li_122, li_144, li_168, li_194, li_240, li_255, li_284, li_299, li_603, li_999, li_1200, li_1440, li_4095, li_4096, li_6030, li_16384, li_20160, zl0, zl1, zl2, zl3, zl4, ze01, ze02, ze03, ze04, ze10, ze12, ze13, ze14, ze20, ze21, ze23, ze24, ze30, ze31, ze32, ze34, ze40, ze41, ze42, ze43, zt0, zt1, zt2, zt3, zt4, zq0, zq1, zq2, zq3, zq4, it_t, it_f, Bool.true_eq_false, Bool.false_eq_true, na5, na4, na1441, na2, na10, sx_IOIA, sx_IOIS, sx_IONS, sx_IAIO, sx_IAIS, sx_IANS, sx_ISIO, sx_ISIA, sx_ISNS, sx_NSIO, sx_NSIA, sx_NSIS, r_cM_gS S1, r_cM_pi S1, rz_gi S1, r_p413 S1, r_c413_al S1, r_isPerson S1 I1.z hD, r_isPager S1 I1.z hD, r_isKind S1 I1.z hD, r_isCouple S1 I1.z hD, b2i_0, nI_leI, c]
  · obtain ⟨k, hk, rfl⟩ := inr_t c (by omega)
    have d5 := hD.ken k hk
    obtain ⟨r, g1, ef, er, MF, -, plg, MK⟩ := k_foresee hS ha hP x y hD hR hk
    have S9 := MF.sh hS
    have I9 : IV g1 T P Q := I.go (QF.mu MF)
    obtain ⟨r2, g2, e2, e3, F2⟩ := k_mostTogether S9 hP plg I9.y hD hk MK.1 (fun i hi => (MK.2.2.2 i hi).2.1)
    have S2 := F2.sh S9
    rw [e3] at e2
    refine ⟨0, nI (mxB (cld T (T 413) k) (2 ^ T 433 k)), by decide, cq_val9 (g1 := g2) ?_ ((QF.mu MF).trans (QF.fr F2 (fun o q j => by rw [q]; unfold SQ; omega))), fun h1 I1 => ?_⟩
    · simp (maxSteps := 3000000) (disch := first | assumption | omega | exact hR.all _) only [m_L_mostEngines, m_X11_mostEngines, bO_v, bR_v, bX_l, bX_r, bC_l, bC_r, aJ_v, aLet_v, nI_add, pk_mul, dvI_n, rmI_n, iMax_n, iMin_n, zO_0, zO_1, li_0, li_1, li_2, li_3, li_4, li_5, li_6, li_7, li_8, li_9, li_10, li_12, li_14, li_15, li_16, li_18, li_19, li_20, li_22, li_23, li_24, li_26, li_29, li_30, li_31, li_32, li_36, li_38, li_48, li_50, li_57, li_58, li_59, li_60, li_63, li_97, li_99, li_120, li_122, li_144, li_168, li_194, li_240, li_255, li_284, li_299, li_603, li_999, li_1200, li_1440, li_4095, li_4096, li_6030, li_16384, li_20160, zl0, zl1, zl2, zl3, zl4, ze01, ze02, ze03, ze04, ze10, ze12, ze13, ze14, ze20, ze21, ze23, ze24, ze30, ze31, ze32, ze34, ze40, ze41, ze42, ze43, zt0, zt1, zt2, zt3, zt4, zq0, zq1, zq2, zq3, zq4, it_t, it_f, Bool.true_eq_false, Bool.false_eq_true, na5, na4, na1441, na2, na10, sx_IOIA, sx_IOIS, sx_IONS, sx_IAIO, sx_IAIS, sx_IANS, sx_ISIO, sx_ISIA, sx_ISNS, sx_NSIO, sx_NSIA, sx_NSIS, c_cX_gS hS, c_cX_gi hS, c_pmu hS, c_co_as hS, s_cS_gi hS ha, s_cS_gL hS ha, s_cS_pi hS ha, s_cS_pL hS ha, s_cS_gS hS ha, s_clost_al hS ha, s_clost_as hS ha, s_clost_ln hS ha, s_cout_al hS ha, s_cout_as hS ha, s_cout_ln hS ha, s_cpaid_al hS ha, s_cpaid_as hS ha, s_cpaid_ln hS ha, s_ctrust_al hS ha, s_ctrust_as hS ha, s_ctrust_ln hS ha, s_crot_al hS ha, s_crot_as hS ha, s_crot_ln hS ha, s_chands_al hS ha, s_chands_as hS ha, s_chands_ln hS ha, s_cto_al hS ha, s_cto_as hS ha, s_cto_ln hS ha, s_cends_al hS ha, s_cends_as hS ha, s_cends_ln hS ha, s_cret_al hS ha, s_cret_as hS ha, s_cret_ln hS ha, s_ccrew_al hS ha, s_ccrew_as hS ha, s_ccrew_ln hS ha, s_cL_gi hS ha, s_cL_gL hS ha, s_cL_pi hS ha, s_cL_pL hS ha, s_cL_gS hS ha, s_clcosts_al hS ha, s_clcosts_as hS ha, s_clcosts_ln hS ha, s_clcomers_al hS ha, s_clcomers_as hS ha, s_clcomers_ln hS ha, s_clleavers_al hS ha, s_clleavers_as hS ha, s_clleavers_ln hS ha, s_clengs_al hS ha, s_clengs_as hS ha, s_clengs_ln hS ha, s_cltimes_al hS ha, s_cltimes_as hS ha, s_cltimes_ln hS ha, s_clcrews_al hS ha, s_clcrews_as hS ha, s_clcrews_ln hS ha, s_cbest_al hS ha, s_cbest_as hS ha, s_cbest_ln hS ha, s_plost hS ha, s_pout hS ha, s_ppaid hS ha, s_ptrust hS ha, s_prot hS ha, s_phands hS ha, s_pto hS ha, s_pends hS ha, s_pret hS ha, s_pcrew hS ha, s_plog hS ha, s_plcosts hS ha, s_plcomers hS ha, s_plleavers hS ha, s_plengs hS ha, s_pltimes hS ha, s_plcrews hS ha, s_pbest hS ha, p_cP_gi hS hP, p_cP_gL hS hP, p_cP_pi hS hP, p_cP_pL hS hP, p_cP_gS hS hP, p_cN_gi hS hP, p_cN_gL hS hP, p_cN_pi hS hP, p_cN_pL hS hP, p_cN_gS hS hP, p_cps_ln hS hP, p_ctr_al hS hP, p_ctr_as hS hP, p_ctr_ln hS hP, p_cgs_ln hS hP, p_ces_ln hS hP, p_cks_ln hS hP, p_cable_al hS hP, p_cable_as hS hP, p_cable_ln hS hP, p_pN hS hP, p_pps hS hP, p_ptr hS hP, p_pgs hS hP, p_pes hS hP, p_pks hS hP, p_pable hS hP, p_ep_al hS hP, p_ep_gi hS hP, p_ep_gL hS hP, p_ep_pi hS hP, p_ep_pL hS hP, p_ep_gS hS hP, p_eg_al hS hP, p_eg_gi hS hP, p_eg_gL hS hP, p_eg_pi hS hP, p_eg_pL hS hP, p_eg_gS hS hP, p_egr_p hS hP, p_egr_al hS hP, p_egr_as hS hP, p_egr_ln hS hP, p_ee_al hS hP, p_ee_gi hS hP, p_ee_gL hS hP, p_ee_pi hS hP, p_ee_pL hS hP, p_ee_gS hS hP, p_ees_p hS hP, p_ees_al hS hP, p_ees_as hS hP, p_ees_ln hS hP, p_eed_p hS hP, p_eed_al hS hP, p_eed_as hS hP, p_eed_ln hS hP, p_ek_al hS hP, p_ek_gi hS hP, p_ek_gL hS hP, p_ek_pi hS hP, p_ek_pL hS hP, p_ek_gS hS hP, p_ekg_p hS hP, p_ekg_al hS hP, p_ekg_as hS hP, p_ekg_ln hS hP, p_eke_p hS hP, p_eke_al hS hP, p_eke_as hS hP, p_eke_ln hS hP, g5, I.g3, b2i_0, I.needPerson, I.needPager, I.needEngine, I.needKind, I.needCall, I.needTwo, c, c_cU_gS hS, ef, c_pmu S9, I9.g3, p_pks S9 hP, p_ek_al S9 hP, c_cU_gS S9, e2, c_co_as S2]
    · have S1 := I1.sh
      have S0 : Sh (h_si h1 412 0 (nI 0)) := S1.si _ _ _
      have z0 : RefR (h_si h1 412 0 (nI 0)) T := I1.z.rz
      have Q0 : QF 0 h1 (h_si h1 412 0 (nI 0)) := QF.si (by unfold SQ; omega)
      have L0 : h_lv (h_si h1 412 0 (nI 0)) = h_lv h1 := rfl
      have g0 : h_iv (h_si h1 412 0 (nI 0)) 412 0 = nI 0 := si_at
      refine rq0 ?_
      simp (maxSteps := 3000000) (disch := first | assumption | omega | exact hR.all _) only [m_X12_mostEngines, bO_v, bR_v, bX_l, bX_r, bC_l, bC_r, aLet_v, nI_add, pk_mul, dvI_n, rmI_n, iMax_n, iMin_n, zO_0, zO_1, li_0, li_1, li_2, li_3, li_4, li_5, li_6, li_7, li_8, li_9, li_10, li_12, li_14, li_15, li_16, li_18, li_19, li_20, li_22, li_23, li_24, li_26, li_29, li_30, li_31, li_32, li_36, li_38, li_48, li_50, li_57, li_58, li_59, li_60, li_63, li_97, li_99, li_120, li_122, li_144, li_168, li_194, li_240, li_255, li_284, li_299, li_603, li_999, li_1200, li_1440, li_4095, li_4096, li_6030, li_16384, li_20160, zl0, zl1, zl2, zl3, zl4, ze01, ze02, ze03, ze04, ze10, ze12, ze13, ze14, ze20, ze21, ze23, ze24, ze30, ze31, ze32, ze34, ze40, ze41, ze42, ze43, zt0, zt1, zt2, zt3, zt4, zq0, zq1, zq2, zq3, zq4, it_t, it_f, Bool.true_eq_false, Bool.false_eq_true, na5, na4, na1441, na2, na10, sx_IOIA, sx_IOIS, sx_IONS, sx_IAIO, sx_IAIS, sx_IANS, sx_ISIO, sx_ISIA, sx_ISNS, sx_NSIO, sx_NSIA, sx_NSIS, r_cM_gS S1, r_isKind S1 I1.z hD, r_cM_pi S1, rz_gi S1, b2i_0, nI_leI, c, aJ_v, r_cM_gS S0]
      generalize h_si h1 412 0 (nI 0) = h0 at S0 z0 Q0 L0 g0 ⊢
      refine ok_bR (r_plans S0 z0 hD hR hk) (fun _ h2 hh => ?_)
      obtain ⟨F3, c63, -, -⟩ := hh
      have S3 := F3.sh S0
      have z3 := z0.fx F3 SCx_no
      have g3 : h_iv h2 412 0 = nI 0 := by rw [F3.iv (by unfold SCx; omega)]; exact g0
      have Q3 := Q0.trans (QF.fx F3 (fun o k q => SCx_q q))
      have L3 : h_lv h2 = h_lv h1 := by rw [F3.lv, L0]
      have clt : com T (T 413) k < 2 ^ T 412 8 := mk_lt _
      have cl2 := two_pow_lt d0 clt
      have pw : 2 ^ T 433 k ≤ 32 := Nat.pow_le_pow_right (show 1 ≤ 2 by decide) (show T 433 k ≤ 5 by omega)
      have pw1 : 1 ≤ 2 ^ T 433 k := Nat.one_le_two_pow
      have sh := shl1_n (j := T 433 k) (by omega)
      have mb : ∀ c, mxB (cld T (T 413) k) c ≤ 12 := fun c => by
        rcases mxB_in (f := cld T (T 413) k) c with q | ⟨m, q1, q2, q3⟩
        · omega
        · rw [q3]; exact fb_ct_le _ 12
      have sz0 : sz 0 = 0 := by decide
      have mx1 : mxB (cld T (T 413) k) 1 = 0 := by
        show (if cld T (T 413) k 0 = true ∧ mxB (cld T (T 413) k) 0 < sz 0 then sz 0 else mxB (cld T (T 413) k) 0) = 0
        rw [sz0]
        split <;> rfl
      refine aL2_run (R := fun o => OK o _) (fun n s1 s2 g => ∃ u, 1 ≤ u ∧ u ≤ 2 ^ T 433 k ∧ n = 2 ^ T 433 k - u ∧ s2 = nI u ∧ s1 = nI (mxB (cld T (T 413) k) u) ∧ Fr JNx h2 g) ⟨1, Nat.le_refl _, pw1, rfl, rfl, by rw [mx1], Fr.rf⟩ (by omega) ?_
      rintro rec n s1 s2 g ⟨u, hu1, hu, rfl, rfl, rfl, hF⟩ ih
      have S4 := hF.sh S3
      have z4 := z3.fr hF (fun o q1 q2 q3 q4 => by unfold JNx at q4; omega)
      have c4 : h_iv g 412 63 = nI (com T (T 413) k) := by rw [hF.iv (by unfold JNx; omega)]; exact c63
      have mbu := mb u
      by_cases hlt : u < 2 ^ T 433 k
      · have sb : sz u ≤ 12 := fb_ct_le _ 12
        have scb : sz (com T (T 413) k) ≤ 12 := fb_ct_le _ 12
        have mu : ∀ g, m_X12_many (nI u) g = some (nI (sz u), g) := fun g => r_many (by omega)
        have mc : ∀ g, m_X12_many (nI (com T (T 413) k)) g = some (nI (sz (com T (T 413) k)), g) := fun g => r_many cl2
        simp (maxSteps := 3000000) (disch := first | assumption | omega | exact hR.all _) only [m_X12_mostEngines_L35, bO_v, bR_v, bX_l, bX_r, bC_l, bC_r, aLet_v, nI_add, pk_mul, dvI_n, rmI_n, iMax_n, iMin_n, zO_0, zO_1, li_0, li_1, li_2, li_3, li_4, li_5, li_6, li_7, li_8, li_9, li_10, li_12, li_14, li_15, li_16, li_18, li_19, li_20, li_22, li_23, li_24, li_26, li_29, li_30, li_31, li_32, li_36, li_38, li_48, li_50, li_57, li_58, li_59, li_60, li_63, li_97, li_99, li_120, li_122, li_144, li_168, li_194, li_240, li_255, li_284, li_299, li_603, li_999, li_1200, li_1440, li_4095, li_4096, li_6030, li_16384, li_20160, zl0, zl1, zl2, zl3, zl4, ze01, ze02, ze03, ze04, ze10, ze12, ze13, ze14, ze20, ze21, ze23, ze24, ze30, ze31, ze32, ze34, ze40, ze41, ze42, ze43, zt0, zt1, zt2, zt3, zt4, zq0, zq1, zq2, zq3, zq4, it_t, it_f, Bool.true_eq_false, Bool.false_eq_true, na5, na4, na1441, na2, na10, sx_IOIA, sx_IOIS, sx_IONS, sx_IAIO, sx_IAIS, sx_IANS, sx_ISIO, sx_ISIA, sx_ISNS, sx_NSIO, sx_NSIA, sx_NSIS, r_p433 S4, r_c433_al S4, z4.c433, sh, nI_ltI, mu, nI_leI]
        rw [if_pos hlt]
        refine aJ_gen (R := fun o => OK o _) (fun k292 hk292 => ?_)
        have next : ∀ v g2, Fr JNx h2 g2 → v = mxB (cld T (T 413) k) (u + 1) → OK (k292 (nI v) g2) (fun r h9 => QF 0 h1 h9 ∧ h_lv h9 = h_lv h1 ∧ h_iv h9 412 0 = nI 0 ∧ r = nI (mxB (cld T (T 413) k) (2 ^ T 433 k))) := fun v g2 F2 hv => by
          rw [hk292]
          simp only [bO_v, bR_v, bX_l, bX_r, bC_l, bC_r, aLet_v, nI_add, pk_mul, dvI_n, rmI_n, iMax_n, iMin_n, zO_0, zO_1, li_0, li_1, li_2, li_3, li_4, li_5, li_6, li_7, li_8, li_9, li_10, li_12, li_14, li_15, li_16, li_18, li_19, li_20, li_22, li_23, li_24, li_26, li_29, li_30, li_31, li_32, li_36, li_38, li_48, li_50, li_57, li_58, li_59, li_60, li_63, li_97, li_99, li_120, li_122, li_144, li_168, li_194, li_240, li_255, li_284, li_299, li_603, li_999, li_1200, li_1440, li_4095, li_4096, li_6030, li_16384, li_20160, zl0, zl1, zl2, zl3, zl4, ze01, ze02, ze03, ze04, ze10, ze12, ze13, ze14, ze20, ze21, ze23, ze24, ze30, ze31, ze32, ze34, ze40, ze41, ze42, ze43, zt0, zt1, zt2, zt3, zt4, zq0, zq1, zq2, zq3, zq4, it_t, it_f, Bool.true_eq_false, Bool.false_eq_true, na5, na4, na1441, na2, na10, sx_IOIA, sx_IOIS, sx_IONS, sx_IAIO, sx_IAIS, sx_IANS, sx_ISIO, sx_ISIA, sx_ISNS, sx_NSIO, sx_NSIA, sx_NSIS]
          exact ih _ _ _ _ (by omega) ⟨u + 1, by omega, hlt, rfl, rfl, by rw [hv], F2⟩
        by_cases c1 : sz u ≤ mxB (cld T (T 413) k) u
        · rw [if_pos c1]
          exact next _ g hF (by rw [mxB, if_neg (fun q => by omega)])
        · rw [if_neg c1]
          refine aJ_gen (R := fun o => OK o _) (fun k146 hk146 => ?_)
          refine r_mostL67 (R := fun o => OK o _) S4 z4 hD hk (by omega) ?_
          have nb := nC_le hD (set := u) hk (Nat.le_refl (T 433 k))
          rw [hk146]
          simp (maxSteps := 3000000) (disch := first | assumption | omega | exact hR.all _) only [bO_v, bR_v, bX_l, bX_r, bC_l, bC_r, aLet_v, nI_add, pk_mul, dvI_n, rmI_n, iMax_n, iMin_n, zO_0, zO_1, li_0, li_1, li_2, li_3, li_4, li_5, li_6, li_7, li_8, li_9, li_10, li_12, li_14, li_15, li_16, li_18, li_19, li_20, li_22, li_23, li_24, li_26, li_29, li_30, li_31, li_32, li_36, li_38, li_48, li_50, li_57, li_58, li_59, li_60, li_63, li_97, li_99, li_120, li_122, li_144, li_168, li_194, li_240, li_255, li_284, li_299, li_603, li_999, li_1200, li_1440, li_4095, li_4096, li_6030, li_16384, li_20160, zl0, zl1, zl2, zl3, zl4, ze01, ze02, ze03, ze04, ze10, ze12, ze13, ze14, ze20, ze21, ze23, ze24, ze30, ze31, ze32, ze34, ze40, ze41, ze42, ze43, zt0, zt1, zt2, zt3, zt4, zq0, zq1, zq2, zq3, zq4, it_t, it_f, Bool.true_eq_false, Bool.false_eq_true, na5, na4, na1441, na2, na10, sx_IOIA, sx_IOIS, sx_IONS, sx_IAIO, sx_IAIS, sx_IANS, sx_ISIO, sx_ISIA, sx_ISNS, sx_NSIO, sx_NSIA, sx_NSIS, b2i_0, r_cM_gi S4, c4, mc, nI_leI, r_cM_gS S4]
          have no : cld T (T 413) k u = false → mxB (cld T (T 413) k) u = mxB (cld T (T 413) k) (u + 1) := fun q => by rw [mxB, if_neg (fun q2 => by rw [q] at q2; cases q2.1)]
          by_cases c2 : (!anyB (badE T (T 413) k u) (T 433 k)) = false
          · rw [if_pos c2]
            exact next _ g hF (no (by unfold cld; rw [c2]; rfl))
          · rw [if_neg c2]
            have t2 : (!anyB (badE T (T 413) k u) (T 433 k)) = true := by simpa using c2
            by_cases c3 : nC T k u (T 433 k) ≤ sz (com T (T 413) k)
            · rw [if_pos c3]
              refine ok_bR (r_begins S4) (fun _ g5 hh => ?_)
              obtain ⟨F5, v5⟩ := hh
              have S5 := F5.sh S4
              have z5 := z4.fr F5 (fun o q1 q2 q3 q4 => by unfold JNx at q4; omega)
              have c5 : h_iv g5 412 63 = nI (com T (T 413) k) := by rw [F5.iv (by unfold JNx; omega)]; exact c4
              refine aJ_gen (R := fun o => OK o _) (fun k246 hk246 => ?_)
              refine r_mostL173 (R := fun o => OK o _) S5 z5 hD hk (by omega) c5 cl2 v5 (fun g6 F6 v6 => ?_)
              have S6 := F6.sh S5
              have F26 := hF.trans (F5.trans F6)
              rw [hk246]
              simp only [aJ_v]
              have ar := any_rk (K := Kc T) (N := T 412 8) (n := nC T k u (T 433 k)) (tC_lt (T := T) k u (T 433 k)) d0 clt
              have ce : cld T (T 413) k u = anyB (rcB (tC T k u (T 433 k)) (Kc T) (com T (T 413) k) true (T 412 8) (nC T k u (T 433 k))) 4096 := by
                unfold cld
                rw [t2, ar, Bool.true_and]
              refine aL2_run (R := fun o => OK o _) (fun n s1 s2 g9 => g9 = g6 ∧ ∃ w, w ≤ 4096 ∧ n = 4096 - w ∧ s2 = nI w ∧ s1 = b2i (anyB (rcB (tC T k u (T 433 k)) (Kc T) (com T (T 413) k) true (T 412 8) (nC T k u (T 433 k))) w)) ⟨rfl, 0, Nat.zero_le _, rfl, rfl, rfl⟩ (by omega) ?_
              rintro rec2 n s1 s2 g9 ⟨rfl, w, hw, rfl, rfl, rfl⟩ ih2
              by_cases hw2 : w < 4096
              · simp (maxSteps := 3000000) (disch := first | assumption | omega | exact hR.all _) only [m_X12_mostEngines_L252, bO_v, bR_v, bX_l, bX_r, bC_l, bC_r, aLet_v, nI_add, pk_mul, dvI_n, rmI_n, iMax_n, iMin_n, zO_0, zO_1, li_0, li_1, li_2, li_3, li_4, li_5, li_6, li_7, li_8, li_9, li_10, li_12, li_14, li_15, li_16, li_18, li_19, li_20, li_22, li_23, li_24, li_26, li_29, li_30, li_31, li_32, li_36, li_38, li_48, li_50, li_57, li_58, li_59, li_60, li_63, li_97, li_99, li_120, li_122, li_144, li_168, li_194, li_240, li_255, li_284, li_299, li_603, li_999, li_1200, li_1440, li_4095, li_4096, li_6030, li_16384, li_20160, zl0, zl1, zl2, zl3, zl4, ze01, ze02, ze03, ze04, ze10, ze12, ze13, ze14, ze20, ze21, ze23, ze24, ze30, ze31, ze32, ze34, ze40, ze41, ze42, ze43, zt0, zt1, zt2, zt3, zt4, zq0, zq1, zq2, zq3, zq4, it_t, it_f, Bool.true_eq_false, Bool.false_eq_true, na5, na4, na1441, na2, na10, sx_IOIA, sx_IOIS, sx_IONS, sx_IAIO, sx_IAIS, sx_IANS, sx_ISIO, sx_ISIA, sx_ISNS, sx_NSIO, sx_NSIA, sx_NSIS, r_p461 S6, r_c461_al S6, v6 w hw2, nI_ltI]
                rw [if_pos hw2]
                exact ih2 _ _ _ _ (by omega) ⟨rfl, w + 1, hw2, rfl, rfl, b2i_or _ _⟩
              · obtain rfl : w = 4096 := by omega
                simp (maxSteps := 3000000) (disch := first | assumption | omega | exact hR.all _) only [m_X12_mostEngines_L252, bO_v, bR_v, bX_l, bX_r, bC_l, bC_r, aLet_v, nI_add, pk_mul, dvI_n, rmI_n, iMax_n, iMin_n, zO_0, zO_1, li_0, li_1, li_2, li_3, li_4, li_5, li_6, li_7, li_8, li_9, li_10, li_12, li_14, li_15, li_16, li_18, li_19, li_20, li_22, li_23, li_24, li_26, li_29, li_30, li_31, li_32, li_36, li_38, li_48, li_50, li_57, li_58, li_59, li_60, li_63, li_97, li_99, li_120, li_122, li_144, li_168, li_194, li_240, li_255, li_284, li_299, li_603, li_999, li_1200, li_1440, li_4095, li_4096, li_6030, li_16384, li_20160, zl0, zl1, zl2, zl3, zl4, ze01, ze02, ze03, ze04, ze10, ze12, ze13, ze14, ze20, ze21, ze23, ze24, ze30, ze31, ze32, ze34, ze40, ze41, ze42, ze43, zt0, zt1, zt2, zt3, zt4, zq0, zq1, zq2, zq3, zq4, it_t, it_f, Bool.true_eq_false, Bool.false_eq_true, na5, na4, na1441, na2, na10, sx_IOIA, sx_IOIS, sx_IONS, sx_IAIO, sx_IAIS, sx_IANS, sx_ISIO, sx_ISIA, sx_ISNS, sx_NSIO, sx_NSIA, sx_NSIS, nI_ltI, b2i_0, mu]
                rw [if_neg hw2, ← ce]
                by_cases c7 : cld T (T 413) k u = false
                · rw [if_pos c7]
                  exact next _ g9 F26 (no c7)
                · rw [if_neg c7]
                  exact next _ g9 F26 (by rw [mxB, if_pos ⟨by simpa using c7, by omega⟩])
            · rw [if_neg c3]
              refine next _ g hF (no ?_)
              unfold cld
              rw [decide_eq_false (rk_few (tC_lt (T := T) k u (T 433 k)) (by omega)), Bool.and_false]
      · obtain rfl : u = 2 ^ T 433 k := by omega
        simp (maxSteps := 3000000) (disch := first | assumption | omega | exact hR.all _) only [m_X12_mostEngines_L35, bO_v, bR_v, bX_l, bX_r, bC_l, bC_r, aLet_v, nI_add, pk_mul, dvI_n, rmI_n, iMax_n, iMin_n, zO_0, zO_1, li_0, li_1, li_2, li_3, li_4, li_5, li_6, li_7, li_8, li_9, li_10, li_12, li_14, li_15, li_16, li_18, li_19, li_20, li_22, li_23, li_24, li_26, li_29, li_30, li_31, li_32, li_36, li_38, li_48, li_50, li_57, li_58, li_59, li_60, li_63, li_97, li_99, li_120, li_122, li_144, li_168, li_194, li_240, li_255, li_284, li_299, li_603, li_999, li_1200, li_1440, li_4095, li_4096, li_6030, li_16384, li_20160, zl0, zl1, zl2, zl3, zl4, ze01, ze02, ze03, ze04, ze10, ze12, ze13, ze14, ze20, ze21, ze23, ze24, ze30, ze31, ze32, ze34, ze40, ze41, ze42, ze43, zt0, zt1, zt2, zt3, zt4, zq0, zq1, zq2, zq3, zq4, it_t, it_f, Bool.true_eq_false, Bool.false_eq_true, na5, na4, na1441, na2, na10, sx_IOIA, sx_IOIS, sx_IONS, sx_IAIO, sx_IAIS, sx_IANS, sx_ISIO, sx_ISIA, sx_ISNS, sx_NSIO, sx_NSIA, sx_NSIS, r_p433 S4, r_c433_al S4, z4.c433, sh, nI_ltI]
        rw [if_neg hlt]
        exact ok_ret ⟨Q3.trans (QF.fr hF (fun o q j => by unfold JNx at q; unfold SQ; omega)), by rw [hF.lv, L3], by rw [hF.iv (by unfold JNx; omega)]; exact g3, rfl⟩
end
