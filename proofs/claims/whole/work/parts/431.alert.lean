/-- what the muster writes -/
def MUx (o k : Nat) : Prop := (173 ≤ o ∧ o ≤ 178) ∨ (o = 172 ∧ (k = 4 ∨ k = 5))
def hset (T : Nat → Nat → Nat) (S : Nat → Nat) (k : Nat) : Nat → Nat
  | 0 => 0
  | j + 1 => hset T S k j ||| 2 ^ link T S (T 432 (6 * k + j)) (S (194 + 15 * T 432 (6 * k + j) + 8))
theorem hset_bit {T : Nat → Nat → Nat} {S : Nat → Nat} {k p : Nat} : ∀ {n : Nat}, (hset T S k n).testBit p = anyB (fun j => decide (link T S (T 432 (6 * k + j)) (S (194 + 15 * T 432 (6 * k + j) + 8)) = p)) n
  | 0 => by rw [hset, Nat.zero_testBit]; rfl
  | n + 1 => by rw [hset, anyB, Nat.testBit_or, hset_bit, Nat.testBit_two_pow]
section
variable {h : aH} {a P : Nat} {T : Nat → Nat → Nat} {S : Nat → Nat}
theorem hset_lt (hD : PlD T) (hR : RwD T S) {k : Nat} (hk : k < T 412 11) : ∀ {n : Nat}, n ≤ T 431 k → hset T S k n < 2 ^ T 412 8
  | 0, _ => Nat.two_pow_pos _
  | n + 1, h => Nat.or_lt_two_pow (hset_lt hD hR hk (by omega)) (Nat.pow_lt_pow_right (by decide) (link_lt hD hR (hD.kg k hk n (by omega)) (Nat.le_refl _)))
theorem hold_now (hR : RwD T S) {g : Nat} (hg : g < T 412 9) : hold T S g (S 0) = link T S g (S (194 + 15 * g + 8)) := by
  unfold hold link
  rw [lst_now hR hg]
theorem k_absence (hS : Sh h) (ha : a ∈ stL) (hP : P ∈ plL) (sp : h_rv h 172 0 = a) (x : StR h a P T S) (y : PlR h P T) (hD : PlD T) (hR : RwD T S) {k p : Nat} (hk : k < T 412 11) (hp : p < T 412 8) (har : h_iv h 174 p = nI (arr T S p)) (hh : hlds T S k p = true) : m_X4_absenceOfHolder 172 (nI p) (nI (T 429 k)) h = some (nI (absn T S k p), h) := by
  have d0 := hD.nP
  have d4 := hD.pat k hk
  have b1 := arr_lt hD (S := S) hp
  have ms := k_mstate hS ha sp
  obtain ⟨X, e1, e2, e3, -⟩ := x.exc
  simp (maxSteps := 3000000) (disch := first | assumption | omega) only [m_X4_absenceOfHolder, bO_v, bR_v, bX_l, bX_r, bC_l, bC_r, aJ_v, aLet_v, nI_add, pk_mul, dvI_n, rmI_n, iMax_n, iMin_n, zO_0, zO_1, li_0, li_1, li_2, li_3, li_4, li_5, li_6, li_7, li_8, li_9, li_10, li_12, li_14, li_15, li_16, li_18, li_19, li_20, li_22, li_23, li_24, li_26, li_29, li_30, li_31, li_32, li_36, li_38, li_48, li_50, li_57, li_58, li_59, li_60, li_63, li_97, li_99, li_120, li_122, li_144, li_168, li_194, li_240, li_255, li_284, li_299, li_603, li_999, li_1200, li_1440, li_4095, li_4096, li_6030, li_16384, li_20160, ms, s_cS_gi hS ha, s_cS_gS hS ha, e1, k_has, e3 p hp, k_isOut hS ha x hD hR hp, k_isTired hS ha hP x y hD hR hp, b2i_0, c_pu1 hS, c_cu1_al hS, har, nI_leI]
  unfold absn
  rw [hh]
  by_cases c3 : S (26 + p) = 0
  · cases c4 : isO S p
    · cases c5 : isT T S p
      · by_cases c6 : arr T S p ≤ T 429 k <;> simp [c3, c6]
      · simp [c3]
    · simp [c3]
  · simp [c3]
theorem k_alertL50 (hS : Sh h) (ha : a ∈ stL) (hP : P ∈ plL) (sp : h_rv h 172 0 = a) (pl : h_rv h 172 1 = P) (x : StR h a P T S) (y : PlR h P T) (hD : PlD T) (hR : RwD T S) {k : Nat} (hk : k < T 412 11) (h0 : h_iv h 172 4 = nI 0) {k129 : aH → Option (Unit × aH)} {R : Option (Unit × aH) → Prop}
    (hh : ∀ h1, Fx MUx h h1 → h_iv h1 172 4 = nI (com T S k) → (∀ p, p < T 412 8 → h_iv h1 174 p = nI (arr T S p) ∧ h_iv h1 173 p = nI (absn T S k p)) → R (k129 h1)) : R (aL1 (m_X4_alert_L50 172 (P + 47 + 3 * k) (nI (hset T S k (T 431 k))) k129) FU (nI 0) h) := by
  have d0 := hD.nP
  have d2 := hD.nK
  have a1 := st_in a ha
  have a2 := st_mu a ha
  have p1 := pl_in P hP
  have hl := two_pow_lt d0 (hset_lt hD hR hk (Nat.le_refl _))
  have stN : ∀ o k, a ≤ o → o < a + 18 → ¬ MUx o k := fun o k q1 q2 q3 => by unfold MUx at q3; omega
  have plN : ∀ o k, P ≤ o → o < P + 65 → ¬ MUx o k := fun o k q1 q2 q3 => by unfold MUx at q3; omega
  refine aL1_run (fun m s1 h1 => ∃ i, i ≤ T 412 8 ∧ m = T 412 8 - i ∧ s1 = nI i ∧ Fx MUx h h1 ∧ h_iv h1 172 4 = nI (mk (fun p => decide (absn T S k p = 0)) i) ∧ ∀ p, p < i → h_iv h1 174 p = nI (arr T S p) ∧ h_iv h1 173 p = nI (absn T S k p)) ⟨0, Nat.zero_le _, rfl, rfl, Fx.rf, h0, fun p hp => absurd hp (Nat.not_lt_zero p)⟩ (by omega) ?_
  rintro rec m s1 h1 ⟨i, hi, rfl, rfl, hF, hc, hA⟩ ih
  have hS1 := hF.sh hS
  have y1 := y.fx hF hD plN
  have x1 := x.fx hF stN
  have sp1 : h_rv h1 172 0 = a := by rw [hF.2.2.2.2.1]; exact sp
  have pl1 : h_rv h1 172 1 = P := by rw [hF.2.2.2.2.1]; exact pl
  have mp := k_mplan hS1 hP pl1
  have ms := k_mstate hS1 ha sp1
  by_cases hlt : i < T 412 8
  · have F2 : Fx MUx h (h_si h1 174 i (nI (arr T S i))) := hF.trans (Fx.si (Or.inl ⟨by decide, by decide⟩))
    have S2 := F2.sh hS
    have x2 := x.fx F2 stN
    have y2 := y.fx F2 hD plN
    have b0 : absn T S k i < 6 := by unfold absn; (repeat' split) <;> omega
    have ka := k_absence S2 ha hP (show h_rv (h_si h1 174 i (nI (arr T S i))) 172 0 = a from sp1) x2 y2 hD hR hk hlt si_at
    have eh : (hset T S k (T 431 k)).testBit i = hlds T S k i := hset_bit
    simp (maxSteps := 3000000) (disch := first | assumption | omega) only [m_X4_alert_L50, bO_v, bR_v, bX_l, bX_r, bC_l, bC_r, aLet_v, nI_add, pk_mul, dvI_n, rmI_n, iMax_n, iMin_n, zO_0, zO_1, li_0, li_1, li_2, li_3, li_4, li_5, li_6, li_7, li_8, li_9, li_10, li_12, li_14, li_15, li_16, li_18, li_19, li_20, li_22, li_23, li_24, li_26, li_29, li_30, li_31, li_32, li_36, li_38, li_48, li_50, li_57, li_58, li_59, li_60, li_63, li_97, li_99, li_120, li_122, li_144, li_168, li_194, li_240, li_255, li_284, li_299, li_603, li_999, li_1200, li_1440, li_4095, li_4096, li_6030, li_16384, li_20160, mp, ms, p_cP_gi hS1 hP, y1.nP, nI_ltI, c_pu1 hS1, s_cS_gS hS1 ha, k_arrivalOf hS1 ha hP x1 y1 hD hR hlt, c_cu1_as hS1, c_pu0 S2, k_has, eh, b2i_0]
    rw [if_pos hlt]
    refine aJ_gen (R := R) (fun k101 hk101 => ?_)
    have c2 : h_iv (h_si h1 174 i (nI (arr T S i))) 172 4 = nI (mk (fun p => decide (absn T S k p = 0)) i) := by rw [si_ne (by omega)]; exact hc
    have K : R (k101 (nI (absn T S k i)) (h_si h1 174 i (nI (arr T S i)))) := by
      have F3 : Fx MUx h (h_si (h_si h1 174 i (nI (arr T S i))) 173 i (nI (absn T S k i))) := F2.trans (Fx.si (Or.inl ⟨by decide, by decide⟩))
      have S3 := F3.sh hS
      have g3 : h_iv (h_si (h_si h1 174 i (nI (arr T S i))) 173 i (nI (absn T S k i))) 173 i = nI (absn T S k i) := si_at
      have c3 : h_iv (h_si (h_si h1 174 i (nI (arr T S i))) 173 i (nI (absn T S k i))) 172 4 = nI (mk (fun p => decide (absn T S k p = 0)) i) := by rw [si_ne (by omega)]; exact c2
      have hA3 : ∀ p, p < i + 1 → h_iv (h_si (h_si h1 174 i (nI (arr T S i))) 173 i (nI (absn T S k i))) 174 p = nI (arr T S p) ∧ h_iv (h_si (h_si h1 174 i (nI (arr T S i))) 173 i (nI (absn T S k i))) 173 p = nI (absn T S k p) := fun p hp => by
        by_cases e : p = i
        · rw [e]
          exact ⟨by rw [si_ne (by omega), si_at], si_at⟩
        · rw [si_ne (by omega), si_ne (by omega), si_ne (by omega), si_ne (by omega)]
          exact hA p (by omega)
      rw [hk101]
      simp (maxSteps := 3000000) (disch := first | assumption | omega) only [bO_v, bR_v, bX_l, bX_r, bC_l, bC_r, aLet_v, nI_add, pk_mul, dvI_n, rmI_n, iMax_n, iMin_n, zO_0, zO_1, li_0, li_1, li_2, li_3, li_4, li_5, li_6, li_7, li_8, li_9, li_10, li_12, li_14, li_15, li_16, li_18, li_19, li_20, li_22, li_23, li_24, li_26, li_29, li_30, li_31, li_32, li_36, li_38, li_48, li_50, li_57, li_58, li_59, li_60, li_63, li_97, li_99, li_120, li_122, li_144, li_168, li_194, li_240, li_255, li_284, li_299, li_603, li_999, li_1200, li_1440, li_4095, li_4096, li_6030, li_16384, li_20160, c_cu0_as S2, c_pu0 S3, c_cu0_al S3, g3, nI_eq, c_cU_gi S3, c_cU_pi S3, c3, shl1_n, fa_or, aJ_v]
      generalize h_si (h_si h1 174 i (nI (arr T S i))) 173 i (nI (absn T S k i)) = h3 at F3 c3 hA3 ⊢
      by_cases c9 : absn T S k i = 0
      · rw [if_pos c9]
        refine ih _ _ _ (by omega) ⟨i + 1, hlt, rfl, rfl, F3.trans (Fx.si (Or.inr ⟨rfl, Or.inl rfl⟩)), by rw [si_at, mk, if_pos (decide_eq_true c9)], fun p hp => ?_⟩
        rw [si_ne (by omega), si_ne (by omega)]
        exact hA3 p hp
      · rw [if_neg c9]
        exact ih _ _ _ (by omega) ⟨i + 1, hlt, rfl, rfl, F3, by rw [c3, mk, if_neg (by simpa using c9), Nat.or_zero], hA3⟩
    cases w : hlds T S k i
    · rw [if_pos rfl]
      have e1 : absn T S k i = 1 := by unfold absn; rw [w]; rfl
      rw [e1] at K
      exact K
    · rw [if_neg (by decide)]
      simp (maxSteps := 3000000) (disch := first | assumption | omega) only [bO_v, bR_v, bX_l, bX_r, bC_l, bC_r, aLet_v, nI_add, pk_mul, dvI_n, rmI_n, iMax_n, iMin_n, zO_0, zO_1, li_0, li_1, li_2, li_3, li_4, li_5, li_6, li_7, li_8, li_9, li_10, li_12, li_14, li_15, li_16, li_18, li_19, li_20, li_22, li_23, li_24, li_26, li_29, li_30, li_31, li_32, li_36, li_38, li_48, li_50, li_57, li_58, li_59, li_60, li_63, li_97, li_99, li_120, li_122, li_144, li_168, li_194, li_240, li_255, li_284, li_299, li_603, li_999, li_1200, li_1440, li_4095, li_4096, li_6030, li_16384, li_20160, p_ek_gi S2 hP, y2.pat k hk, c_cU_gS S2, ka w]
      exact K
  · obtain rfl : i = T 412 8 := by omega
    simp (maxSteps := 3000000) (disch := first | assumption | omega) only [m_X4_alert_L50, bO_v, bR_v, bX_l, bX_r, bC_l, bC_r, aLet_v, nI_add, pk_mul, dvI_n, rmI_n, iMax_n, iMin_n, zO_0, zO_1, li_0, li_1, li_2, li_3, li_4, li_5, li_6, li_7, li_8, li_9, li_10, li_12, li_14, li_15, li_16, li_18, li_19, li_20, li_22, li_23, li_24, li_26, li_29, li_30, li_31, li_32, li_36, li_38, li_48, li_50, li_57, li_58, li_59, li_60, li_63, li_97, li_99, li_120, li_122, li_144, li_168, li_194, li_240, li_255, li_284, li_299, li_603, li_999, li_1200, li_1440, li_4095, li_4096, li_6030, li_16384, li_20160, mp, p_cP_gi hS1 hP, y1.nP, nI_ltI]
    rw [if_neg hlt]
    exact hh h1 hF hc hA
theorem k_alert (hS : Sh h) (ha : a ∈ stL) (hP : P ∈ plL) (sp : h_rv h 172 0 = a) (pl : h_rv h 172 1 = P) (x : StR h a P T S) (y : PlR h P T) (hD : PlD T) (hR : RwD T S) {k : Nat} (hk : k < T 412 11) :
    OK (m_X4_alert 172 (P + 47 + 3 * k) h) (fun _ h1 => Fx MUx h h1 ∧ h_iv h1 172 4 = nI (com T S k) ∧ ∀ p, p < T 412 8 → h_iv h1 174 p = nI (arr T S p) ∧ h_iv h1 173 p = nI (absn T S k p)) := by
  have d0 := hD.nP
  have d1 := hD.nG
  have d2 := hD.nK
  have d3 := hD.kgn k hk
  have r0 := hR.tm
  have a1 := st_in a ha
  have a2 := st_mu a ha
  have p1 := pl_in P hP
  have ms := k_mstate hS ha sp
  simp only [m_X4_alert, aJ_v]
  refine aL2_run (R := fun o => OK o _) (fun m s1 s2 h1 => h1 = h ∧ ∃ i, i ≤ T 431 k ∧ m = T 431 k - i ∧ s2 = nI i ∧ s1 = nI (hset T S k i)) ⟨rfl, 0, Nat.zero_le _, rfl, rfl, rfl⟩ (by omega) ?_
  rintro rec m s1 s2 h1 ⟨rfl, i, hi, rfl, rfl, rfl⟩ ih
  by_cases hlt : i < T 431 k
  · have g1 := hD.kg k hk i hlt
    have hl := link_lt hD hR g1 (Nat.le_refl _)
    simp (maxSteps := 3000000) (disch := first | assumption | omega) only [m_X4_alert_L4, bO_v, bR_v, bX_l, bX_r, bC_l, bC_r, aJ_v, aLet_v, nI_add, pk_mul, dvI_n, rmI_n, iMax_n, iMin_n, zO_0, zO_1, li_0, li_1, li_2, li_3, li_4, li_5, li_6, li_7, li_8, li_9, li_10, li_12, li_14, li_15, li_16, li_18, li_19, li_20, li_22, li_23, li_24, li_26, li_29, li_30, li_31, li_32, li_36, li_38, li_48, li_50, li_57, li_58, li_59, li_60, li_63, li_97, li_99, li_120, li_122, li_144, li_168, li_194, li_240, li_255, li_284, li_299, li_603, li_999, li_1200, li_1440, li_4095, li_4096, li_6030, li_16384, li_20160, p_ek_gi hS hP, y.kgn k hk, nI_ltI, ms, p_ekg_p hS hP, p_ekg_al hS hP, y.kg k hk i hlt, s_cS_gi hS ha, s_cS_gS hS ha, x.tm, k_holderThen hS ha hP x y hD hR g1 (show S 0 < 1000000 by omega), hold_now hR g1, shl1_n, fa_or]
    rw [if_pos hlt]
    exact ih _ _ _ _ (by omega) ⟨rfl, i + 1, hlt, rfl, rfl, rfl⟩
  · obtain rfl : i = T 431 k := by omega
    simp (maxSteps := 3000000) (disch := first | assumption | omega) only [m_X4_alert_L4, bO_v, bR_v, bX_l, bX_r, bC_l, bC_r, aJ_v, aLet_v, nI_add, pk_mul, dvI_n, rmI_n, iMax_n, iMin_n, zO_0, zO_1, li_0, li_1, li_2, li_3, li_4, li_5, li_6, li_7, li_8, li_9, li_10, li_12, li_14, li_15, li_16, li_18, li_19, li_20, li_22, li_23, li_24, li_26, li_29, li_30, li_31, li_32, li_36, li_38, li_48, li_50, li_57, li_58, li_59, li_60, li_63, li_97, li_99, li_120, li_122, li_144, li_168, li_194, li_240, li_255, li_284, li_299, li_603, li_999, li_1200, li_1440, li_4095, li_4096, li_6030, li_16384, li_20160, p_ek_gi hS hP, y.kgn k hk, nI_ltI, c_cU_pi hS]
    rw [if_neg hlt]
    have F1 : Fx MUx h1 (h_si h1 172 4 (nI 0)) := Fx.si (Or.inr ⟨rfl, Or.inl rfl⟩)
    refine k_alertL50 (R := fun o => OK o _) (F1.sh hS) ha hP sp pl (x.fx F1 (fun o k q1 q2 q3 => by unfold MUx at q3; omega)) (y.fx F1 hD (fun o k q1 q2 q3 => by unfold MUx at q3; omega)) hD hR hk si_at (fun h2 F2 c2 A2 => ?_)
    exact ok_ret ⟨F1.trans F2, c2, A2⟩
end
