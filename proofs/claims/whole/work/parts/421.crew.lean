/-! how many posts can be manned: the class's least sum -/
def mnf (f : Nat → Nat) (x : Nat) : Nat → Nat
  | 0 => x
  | k + 1 => min (mnf f x k) (f k)
theorem mnf_le {f : Nat → Nat} {x : Nat} : ∀ {n k : Nat}, k < n → mnf f x n ≤ f k
  | 0, k, h => absurd h (Nat.not_lt_zero k)
  | n + 1, k, h => by
    rw [mnf]
    by_cases e : k = n
    · rw [e]; omega
    · have := mnf_le (f := f) (x := x) (n := n) (k := k) (by omega)
      omega
theorem mnf_in {f : Nat → Nat} {x : Nat} : ∀ n, mnf f x n = x ∨ ∃ k, k < n ∧ mnf f x n = f k
  | 0 => Or.inl rfl
  | n + 1 => by
    rw [mnf]
    by_cases c : mnf f x n ≤ f n
    · rw [show min (mnf f x n) (f n) = mnf f x n by omega]
      rcases mnf_in (f := f) (x := x) n with h | ⟨k, h1, h2⟩
      · exact Or.inl h
      · exact Or.inr ⟨k, by omega, h2⟩
    · exact Or.inr ⟨n, by omega, by omega⟩
theorem mnf_x {f : Nat → Nat} {x : Nat} : ∀ n, mnf f x n ≤ x
  | 0 => Nat.le_refl _
  | n + 1 => by
    have := mnf_x (f := f) (x := x) n
    rw [mnf]
    omega
/-- how many of the n posts the persons of A can man -/
def rk (t K : Nat → Nat) (n A : Nat) : Nat := mnf (hf t K n A) n 32
theorem hf_0 {t K : Nat → Nat} {n A : Nat} : hf t K n A 0 = n := by
  have e1 : fb_ct (fun k => !(0 : Nat).testBit (t k)) n = n := fb_ct_all.mpr (fun k _ => by rw [Nat.zero_testBit]; rfl)
  have e2 : fb_ct (fun p => A.testBit p && decide (K p &&& 0 ≠ 0)) 12 = 0 := fb_ct_zero.mpr (fun p _ => by rw [Nat.and_zero]; simp)
  unfold hf
  rw [e1, e2]
  rfl
theorem rk_spec {t K : Nat → Nat} (ht : ∀ k, t k < 5) (n A : Nat) : (∃ m, sub m A ∧ Mt t K n m ∧ sz m = rk t K n A) ∧ ∀ m, sub m A → Mt t K n m → sz m ≤ rk t K n A := by
  have h1 : ∀ s, s < 32 → rk t K n A ≤ hf t K n A s := fun s hs => mnf_le hs
  rcases mnf_in (f := hf t K n A) (x := n) 32 with h | ⟨k, h2, h3⟩
  · exact hall_max ht n A _ h1 (s0 := 0) (by decide) (hf_0.trans h.symm)
  · exact hall_max ht n A _ h1 h2 h3.symm
theorem rk_le (t K : Nat → Nat) (n A : Nat) : rk t K n A ≤ n := mnf_x 32
theorem mk_bit {q : Nat → Bool} : ∀ {n p : Nat}, (mk q n).testBit p = (decide (p < n) && q p)
  | 0, p => by rw [mk, Nat.zero_testBit]; simp
  | n + 1, p => by
    rw [mk, Nat.testBit_or, mk_bit]
    by_cases e : p = n
    · rw [e]
      cases h : q n
      · simp
      · simp [Nat.testBit_two_pow_self]
    · cases h : q n
      · by_cases c : p < n
        · simp [c, show p < n + 1 by omega]
        · simp [c, show ¬ p < n + 1 by omega]
      · rw [if_pos rfl, Nat.testBit_two_pow]
        by_cases c : p < n
        · simp [c, show p < n + 1 by omega, show ¬ n = p by omega]
        · simp [c, show ¬ p < n + 1 by omega, show ¬ n = p by omega]
theorem mk_lt {q : Nat → Bool} : ∀ n, mk q n < 2 ^ n
  | 0 => by show (0 : Nat) < 2 ^ 0; decide
  | n + 1 => by
    have := mk_lt (q := q) n
    rw [mk]
    refine Nat.or_lt_two_pow (Nat.lt_trans this (Nat.pow_lt_pow_right (by decide) (by omega))) ?_
    split
    · exact Nat.pow_lt_pow_right (by decide) (by omega)
    · exact Nat.two_pow_pos _
theorem mk_ext {a b n : Nat} (ha : a < 2 ^ n) (hb : b < 2 ^ n) (h : ∀ p, p < n → a.testBit p = b.testBit p) : a = b := Nat.eq_of_testBit_eq (fun i => by
  by_cases c : i < n
  · exact h i c
  · rw [Nat.testBit_lt_two_pow (Nat.lt_of_lt_of_le ha (Nat.pow_le_pow_right (by decide) (by omega))), Nat.testBit_lt_two_pow (Nat.lt_of_lt_of_le hb (Nat.pow_le_pow_right (by decide) (by omega)))])
/-- what kind of skill a post asks for -/
def ptyp (x : Nat) : Nat := if x = 0 then 4 else if x = 1 then 0 else if x = 2 then 1 else if x = 4 then 2 else 3
theorem ptyp_lt (x : Nat) : ptyp x < 5 := by unfold ptyp; (repeat' split) <;> omega
theorem pbit_is {x : Nat} (h : x = 0 ∨ x = 1 ∨ x = 2 ∨ x = 4 ∨ x = 8) : pbit x = 2 ^ ptyp x := by rcases h with h | h | h | h | h <;> (rw [h]; rfl)
theorem and_bit {s j : Nat} : decide (s &&& 2 ^ j ≠ 0) = s.testBit j := by
  cases h : s.testBit j
  · exact decide_eq_false (fun q => q ((fb_bit_nat s j).mpr h))
  · exact decide_eq_true (fun q => by rw [(fb_bit_nat s j).mp q] at h; cases h)
def bcE (v : Int32) : Int32 := let x2 := v - ((iUshr (v) (1 : Int32)) &&& (1431655765 : Int32)); let x3 := (x2 &&& (858993459 : Int32)) + ((iUshr x2 (2 : Int32)) &&& (858993459 : Int32)); let x4 := (x3 + (iUshr x3 (4 : Int32))) &&& (252645135 : Int32); let x5 := x4 + (iUshr x4 (8 : Int32)); let x6 := x5 + (iUshr x5 (16 : Int32)); x6 &&& (63 : Int32)
theorem bc_all : ∀ a, a < 64 → ∀ b, b < 64 → bcE (nI (64 * a + b)) = nI (sz (64 * a + b)) := by decide +kernel
theorem k_bitCount {h : aH} {m : Nat} (hm : m < 4096) : m_J6_bitCount_0f7a4 (nI m) h = some (nI (sz m), h) := by
  have e := bc_all (m / 64) (by omega) (m % 64) (by omega)
  rw [show 64 * (m / 64) + m % 64 = m by omega] at e
  rw [← e]
  rfl
section
variable {h : aH} {P : Nat} {T : Nat → Nat → Nat}
/-- a person's skills as the class has them -/
def Kc (T : Nat → Nat → Nat) (p : Nat) : Nat := 16 + T 421 p
theorem k_mostManned (hS : Sh h) (hP : P ∈ plL) (y : PlR h P T) (hD : PlD T) {o n A : Nat} {t : Nat → Nat} (h1 : h_sh h o = 1) (h2 : h_ln h o = 32) (eD : ∀ s, s < 32 → h_iv h o s = nI (fb_ct (fun k => s.testBit (t k)) n)) (ht : ∀ k, t k < 5) (hn : n ≤ 1000) (hA : A < 2 ^ T 412 8) : m_X8_mostManned P o (nI A) h = some (nI (rk t (Kc T) n A), h) := by
  have d0 := hD.nP
  have hA2 := two_pow_lt d0 hA
  have ao : ∀ {s : Nat}, s < 32 → ali h 1 o (nI s) = some (nI (fb_ct (fun k => s.testBit (t k)) n)) := fun hs => by rw [ali_ok h1 h2 hs (by omega), eD _ hs]
  have e31 : fb_ct (fun k => (31 : Nat).testBit (t k)) n = n := fb_ct_all.mpr (fun k _ => by
    have := ht k
    have hh : ∀ j, j < 5 → (31 : Nat).testBit j = true := by decide
    exact hh _ this)
  have a31 := ao (s := 31) (by decide)
  rw [e31] at a31
  have dn : ∀ s : Nat, n - fb_ct (fun k => s.testBit (t k)) n = fb_ct (fun k => !s.testBit (t k)) n := fun (s : Nat) => by
    have := fb_ct_not (fun k => s.testBit (t k)) n
    omega
  simp (maxSteps := 3000000) (disch := first | assumption | omega) only [m_X8_mostManned, bO_v, bR_v, bX_l, bX_r, bC_l, bC_r, aJ_v, aLet_v, nI_add, pk_mul, dvI_n, rmI_n, iMax_n, iMin_n, zO_0, zO_1, li_0, li_1, li_2, li_3, li_4, li_5, li_6, li_7, li_8, li_9, li_10, li_12, li_14, li_15, li_16, li_18, li_19, li_20, li_22, li_23, li_24, li_26, li_29, li_30, li_31, li_32, li_36, li_38, li_48, li_50, li_57, li_58, li_59, li_60, li_63, li_97, li_99, li_120, li_122, li_144, li_168, li_194, li_240, li_255, li_284, li_299, li_603, li_999, li_1200, li_1440, li_4095, li_4096, li_6030, li_16384, li_20160, a31]
  refine aL2_run (R := fun o => o = some (nI (rk t (Kc T) n A), h)) (fun m s1 s2 h1 => h1 = h ∧ ∃ i, i ≤ 32 ∧ m = 32 - i ∧ s2 = nI i ∧ s1 = nI (mnf (hf t (Kc T) n A) n i)) ⟨rfl, 0, Nat.zero_le _, rfl, rfl, rfl⟩ (by omega) ?_
  rintro rec m s1 s2 h1' ⟨rfl, i, hi, rfl, rfl, rfl⟩ ih
  by_cases hlt : i < 32
  · have b0 := mnf_x (f := hf t (Kc T) n A) (x := n) i
    have c1 := fb_ct_le (fun k => i.testBit (t k)) n
    have ab := y.able i hlt
    have m1 : mk (fun p => decide (i &&& (16 + T 421 p) ≠ 0)) (T 412 8) &&& A < 4096 := Nat.lt_of_le_of_lt Nat.and_le_right hA2
    have m2 : sz (mk (fun p => decide (i &&& (16 + T 421 p) ≠ 0)) (T 412 8) &&& A) = fb_ct (fun p => A.testBit p && decide (Kc T p &&& i ≠ 0)) 12 := fb_ct_cong (fun p _ => by
      rw [Nat.testBit_and, mk_bit, Nat.and_comm (Kc T p)]
      by_cases c : A.testBit p = true
      · have := bit_lt hA c
        rw [c, decide_eq_true this, Bool.and_true, Bool.true_and, Bool.true_and]
        rfl
      · rw [show A.testBit p = false by simpa using c, Bool.and_false, Bool.false_and])
    have m3 := fb_ct_le (fun p => A.testBit p && decide (Kc T p &&& i ≠ 0)) 12
    simp (maxSteps := 3000000) (disch := first | assumption | omega) only [m_X8_mostManned_L8, bO_v, bR_v, bX_l, bX_r, bC_l, bC_r, aJ_v, aLet_v, nI_add, pk_mul, dvI_n, rmI_n, iMax_n, iMin_n, zO_0, zO_1, li_0, li_1, li_2, li_3, li_4, li_5, li_6, li_7, li_8, li_9, li_10, li_12, li_14, li_15, li_16, li_18, li_19, li_20, li_22, li_23, li_24, li_26, li_29, li_30, li_31, li_32, li_36, li_38, li_48, li_50, li_57, li_58, li_59, li_60, li_63, li_97, li_99, li_120, li_122, li_144, li_168, li_194, li_240, li_255, li_284, li_299, li_603, li_999, li_1200, li_1440, li_4095, li_4096, li_6030, li_16384, li_20160, ao hlt, a31, p_cP_gi hS hP, p_cP_gL hS hP, p_cP_pi hS hP, p_cP_pL hS hP, p_cP_gS hS hP, p_cN_gi hS hP, p_cN_gL hS hP, p_cN_pi hS hP, p_cN_pL hS hP, p_cN_gS hS hP, p_cps_ln hS hP, p_ctr_al hS hP, p_ctr_as hS hP, p_ctr_ln hS hP, p_cgs_ln hS hP, p_ces_ln hS hP, p_cks_ln hS hP, p_cable_al hS hP, p_cable_as hS hP, p_cable_ln hS hP, p_pN hS hP, p_pps hS hP, p_ptr hS hP, p_pgs hS hP, p_pes hS hP, p_pks hS hP, p_pable hS hP, p_ep_al hS hP, p_ep_gi hS hP, p_ep_gL hS hP, p_ep_pi hS hP, p_ep_pL hS hP, p_ep_gS hS hP, p_eg_al hS hP, p_eg_gi hS hP, p_eg_gL hS hP, p_eg_pi hS hP, p_eg_pL hS hP, p_eg_gS hS hP, p_egr_p hS hP, p_egr_al hS hP, p_egr_as hS hP, p_egr_ln hS hP, p_ee_al hS hP, p_ee_gi hS hP, p_ee_gL hS hP, p_ee_pi hS hP, p_ee_pL hS hP, p_ee_gS hS hP, p_ees_p hS hP, p_ees_al hS hP, p_ees_as hS hP, p_ees_ln hS hP, p_eed_p hS hP, p_eed_al hS hP, p_eed_as hS hP, p_eed_ln hS hP, p_ek_al hS hP, p_ek_gi hS hP, p_ek_gL hS hP, p_ek_pi hS hP, p_ek_pL hS hP, p_ek_gS hS hP, p_ekg_p hS hP, p_ekg_al hS hP, p_ekg_as hS hP, p_ekg_ln hS hP, p_eke_p hS hP, p_eke_al hS hP, p_eke_as hS hP, p_eke_ln hS hP, ab, fa_and, k_bitCount m1, m2, pk_sub, dn, nI_ltI]
    rw [if_pos hlt]
    have c2 := fb_ct_le (fun k => !i.testBit (t k)) n
    simp (maxSteps := 3000000) (disch := first | assumption | omega) only [iMin_n]
    exact ih _ _ _ _ (by omega) ⟨rfl, i + 1, hlt, rfl, rfl, rfl⟩
  · obtain rfl : i = 32 := by omega
    simp (maxSteps := 3000000) (disch := first | assumption | omega) only [m_X8_mostManned_L8, bO_v, bR_v, bX_l, bX_r, bC_l, bC_r, aJ_v, aLet_v, nI_add, pk_mul, dvI_n, rmI_n, iMax_n, iMin_n, zO_0, zO_1, li_0, li_1, li_2, li_3, li_4, li_5, li_6, li_7, li_8, li_9, li_10, li_12, li_14, li_15, li_16, li_18, li_19, li_20, li_22, li_23, li_24, li_26, li_29, li_30, li_31, li_32, li_36, li_38, li_48, li_50, li_57, li_58, li_59, li_60, li_63, li_97, li_99, li_120, li_122, li_144, li_168, li_194, li_240, li_255, li_284, li_299, li_603, li_999, li_1200, li_1440, li_4095, li_4096, li_6030, li_16384, li_20160, nI_ltI]
    rw [if_neg (by decide)]
    rfl
end
