/-- what foreseeing leaves as it was -/
def MuF (h h1 : aH) : Prop := h_nx h1 = h_nx h ∧ h_sl h1 = h_sl h ∧ h_sh h1 = h_sh h ∧ h_ln h1 = h_ln h ∧ h_lv h1 = h_lv h ∧ (∀ o k, ¬ MUx o k → h_iv h1 o k = h_iv h o k) ∧ ∀ o k, ¬ (o = 172 ∧ (k = 0 ∨ k = 1)) → h_rv h1 o k = h_rv h o k
theorem MuF.sh {h h1 : aH} (x : MuF h h1) (hS : Sh h) : Sh h1 := by
  obtain ⟨x1, x2, x3, x4, x5, x6, x7⟩ := x
  refine ⟨?_, fun q hq => ?_, fun q hq => ?_⟩
  · rw [x1]; exact hS.1
  · rw [x3, x4]; exact hS.2.1 q hq
  · have hne : ∀ q ∈ ptL, ¬ (q.1 = 172 ∧ (q.2.1 = 0 ∨ q.2.1 = 1)) := by decide +kernel
    rw [x7 _ _ (hne q hq)]
    exact hS.2.2 q hq
/-- what a muster knows behind it -/
def MuK (T : Nat → Nat → Nat) (S : Nat → Nat) (k : Nat) (h : aH) : Prop :=
  h_iv h 172 4 = nI (com T S k) ∧ h_iv h 172 5 = nI (plF T S k (T 433 k)) ∧ (∀ p, p < T 412 8 → h_iv h 174 p = nI (arr T S p) ∧ h_iv h 173 p = nI (absn T S k p)) ∧
  ∀ i, i < T 433 k → h_iv h 176 i = nI (rk (tyE T (enK T k i)) (Kc T) (T 426 (enK T k i)) (plF T S k i)) ∧ h_iv h 175 i = nI (plS T S k (plF T S k i) i) ∧ h_iv h 177 i = nI (plC T S k (plF T S k i) i) ∧ h_iv h 178 i = nI (latK (arr T S) (plC T S k (plF T S k i) i) (T 412 8))
theorem plV_le (T : Nat → Nat → Nat) (S : Nat → Nat) (k : Nat) : ∀ i, plV T S k i ≤ i
  | 0 => Nat.le_refl _
  | i + 1 => by
    have := plV_le T S k i
    rw [plV]
    split <;> omega
section
variable {h : aH} {a P : Nat} {T : Nat → Nat → Nat} {S : Nat → Nat}
theorem plS_0 {k A i : Nat} : plS T S k A i = 0 ↔ plC T S k A i ≠ 0 := by
  unfold plS
  constructor
  · intro h
    split at h
    · cases h
    · split at h
      · cases h
      · split at h
        · cases h
        · assumption
  · intro h
    have h1 : rstd S (enK T k i) = false := by
      cases c : rstd S (enK T k i)
      · rfl
      · exact absurd (by unfold plC; rw [c]; rfl) h
    have h2 : eout S (enK T k i) = false := by
      cases c : eout S (enK T k i)
      · rfl
      · exact absurd (by unfold plC; rw [c, h1]; rfl) h
    rw [if_neg (by rw [h1]; decide), if_neg (by rw [h2]; decide), if_neg h]
theorem plS_lt {k A i : Nat} : plS T S k A i < 4 := by unfold plS; (repeat' split) <;> omega
theorem k_foresee (hS : Sh h) (ha : a ∈ stL) (hP : P ∈ plL) (x : StR h a P T S) (y : PlR h P T) (hD : PlD T) (hR : RwD T S) {k : Nat} (hk : k < T 412 11) :
    OK (m_X4_foresee 172 a (P + 47 + 3 * k) h) (fun r h1 => r = b2i (decide (T 430 k ≤ plV T S k (T 433 k))) ∧ MuF h h1 ∧ h_rv h1 172 0 = a ∧ h_rv h1 172 1 = P ∧ MuK T S k h1) := by
  have d0 := hD.nP
  have d1 := hD.nE
  have d2 := hD.nK
  have d3 := hD.ken k hk
  have d4 := hD.ned k hk
  have a1 := st_in a ha
  have a2 := st_mu a ha
  have p1 := pl_in P hP
  have hne : ∀ j, j = 0 ∨ j = 1 → ∀ q ∈ ptL, ¬ (q.1 = 172 ∧ q.2.1 = j) := by
    have hd : ∀ q ∈ ptL, ¬ (q.1 = 172 ∧ (q.2.1 = 0 ∨ q.2.1 = 1)) := by decide +kernel
    exact fun j hj q hq e => hd q hq ⟨e.1, by omega⟩
  have S1 : Sh (h_sr h 172 0 a) := hS.sr _ _ _ (hne 0 (Or.inl rfl))
  have S2 : Sh (h_sr (h_sr h 172 0 a) 172 1 P) := S1.sr _ _ _ (hne 1 (Or.inr rfl))
  have rv2 : ∀ o j, ¬ (o = 172 ∧ (j = 0 ∨ j = 1)) → h_rv (h_sr (h_sr h 172 0 a) 172 1 P) o j = h_rv h o j := fun o j hq => (u2n (fun e => hq ⟨e.1, Or.inr e.2⟩)).trans (u2n (fun e => hq ⟨e.1, Or.inl e.2⟩))
  have sp2 : h_rv (h_sr (h_sr h 172 0 a) 172 1 P) 172 0 = a := show up2 (h_rv (h_sr h 172 0 a)) 172 1 P 172 0 = a from (u2n (by omega)).trans (show up2 (h_rv h) 172 0 a 172 0 = a from if_pos ⟨rfl, rfl⟩)
  have pl2 : h_rv (h_sr (h_sr h 172 0 a) 172 1 P) 172 1 = P := show up2 (h_rv (h_sr h 172 0 a)) 172 1 P 172 1 = P from if_pos ⟨rfl, rfl⟩
  have w1 : pr h 4 172 0 a = some (h_sr h 172 0 a) := pr_ok (c_cU hS) (st_ne0 a ha)
  have w2 : gr (h_sr h 172 0 a) 10 a 0 = some P := gr_ok9 (s_cS S1 ha) ((u2n (by omega)).trans x.pl) (pl_ne0 P hP)
  have w3 : pr (h_sr h 172 0 a) 4 172 1 P = some (h_sr (h_sr h 172 0 a) 172 1 P) := pr_ok (c_cU S1) (pl_ne0 P hP)
  have x2 : StR (h_sr (h_sr h 172 0 a) 172 1 P) a P T S := x.keep (fun o _ _ => rfl) (rv2 a 0 (by omega))
  have y2 : PlR (h_sr (h_sr h 172 0 a) 172 1 P) P T := y.keep (fun o _ _ => rfl) hD
  have iv2 : h_iv (h_sr (h_sr h 172 0 a) 172 1 P) = h_iv h := rfl
  have F2 : MuF h (h_sr (h_sr h 172 0 a) 172 1 P) := ⟨rfl, rfl, rfl, rfl, rfl, fun _ _ _ => rfl, rv2⟩
  simp only [m_X4_foresee, bO_v, bR_v, bX_l, bX_r, bC_l, bC_r, aLet_v, nI_add, pk_mul, dvI_n, rmI_n, iMax_n, iMin_n, zO_0, zO_1, li_0, li_1, li_2, li_3, li_4, li_5, li_6, li_7, li_8, li_9, li_10, li_12, li_14, li_15, li_16, li_18, li_19, li_20, li_22, li_23, li_24, li_26, li_29, li_30, li_31, li_32, li_36, li_38, li_48, li_50, li_57, li_58, li_59, li_60, li_63, li_97, li_99, li_120, li_122, li_144, li_168, li_194, li_240, li_255, li_284, li_299, li_603, li_999, li_1200, li_1440, li_4095, li_4096, li_6030, li_16384, li_20160, w1, w2, w3, c_cU_gS S2]
  generalize h_sr (h_sr h 172 0 a) 172 1 P = h2 at S2 sp2 pl2 x2 y2 F2 ⊢
  refine ok_bR (k_alert S2 ha hP sp2 pl2 x2 y2 hD hR hk) (fun _ h3 hh => ?_)
  obtain ⟨F3, c3, A3⟩ := hh
  have S3 := F3.sh S2
  have F4 : Fx MUx h2 (h_si h3 172 5 (nI (com T S k))) := F3.trans (Fx.si (Or.inr ⟨rfl, Or.inr rfl⟩))
  have stN : ∀ o k, a ≤ o → o < a + 18 → ¬ MUx o k := fun o k q1 q2 q3 => by unfold MUx at q3; omega
  have plN : ∀ o k, P ≤ o → o < P + 65 → ¬ MUx o k := fun o k q1 q2 q3 => by unfold MUx at q3; omega
  have toF : ∀ h9, Fx MUx h2 h9 → MuF h h9 ∧ h_rv h9 172 0 = a ∧ h_rv h9 172 1 = P := fun h9 f => by
    obtain ⟨g1, g2, g3, g4, g5, g6, g7⟩ := f
    obtain ⟨e1, e2, e3, e4, e5, e6, e7⟩ := F2
    exact ⟨⟨g1.trans e1, g2.trans e2, g3.trans e3, g4.trans e4, g6.trans e5, fun o k hq => (g7 o k hq).trans (e6 o k hq), fun o k hq => by rw [g5]; exact e7 o k hq⟩, by rw [g5]; exact sp2, by rw [g5]; exact pl2⟩
  simp (maxSteps := 3000000) (disch := first | assumption | omega) only [bO_v, bR_v, bX_l, bX_r, bC_l, bC_r, aLet_v, nI_add, pk_mul, dvI_n, rmI_n, iMax_n, iMin_n, zO_0, zO_1, li_0, li_1, li_2, li_3, li_4, li_5, li_6, li_7, li_8, li_9, li_10, li_12, li_14, li_15, li_16, li_18, li_19, li_20, li_22, li_23, li_24, li_26, li_29, li_30, li_31, li_32, li_36, li_38, li_48, li_50, li_57, li_58, li_59, li_60, li_63, li_97, li_99, li_120, li_122, li_144, li_168, li_194, li_240, li_255, li_284, li_299, li_603, li_999, li_1200, li_1440, li_4095, li_4096, li_6030, li_16384, li_20160, c_cU_gi S3, c3, c_cU_pi S3, aJ_v]
  refine aL2_run (R := fun o => OK o _) (fun m s1 s2 h4 => ∃ i, i ≤ T 433 k ∧ m = T 433 k - i ∧ s2 = nI i ∧ s1 = nI (plV T S k i) ∧ Fx MUx h2 h4 ∧ h_iv h4 172 4 = nI (com T S k) ∧ h_iv h4 172 5 = nI (plF T S k i) ∧ (∀ p, p < T 412 8 → h_iv h4 174 p = nI (arr T S p) ∧ h_iv h4 173 p = nI (absn T S k p)) ∧
    ∀ j, j < i → h_iv h4 176 j = nI (rk (tyE T (enK T k j)) (Kc T) (T 426 (enK T k j)) (plF T S k j)) ∧ h_iv h4 175 j = nI (plS T S k (plF T S k j) j) ∧ h_iv h4 177 j = nI (plC T S k (plF T S k j) j) ∧ h_iv h4 178 j = nI (latK (arr T S) (plC T S k (plF T S k j) j) (T 412 8)))
    ⟨0, Nat.zero_le _, rfl, rfl, rfl, F4, by rw [si_ne (by omega)]; exact c3, si_at, fun p hp => by rw [si_ne (by omega), si_ne (by omega)]; exact A3 p hp, fun j hj => absurd hj (Nat.not_lt_zero j)⟩ (by omega) ?_
  rintro rec m s1 s2 h4 ⟨i, hi, rfl, rfl, rfl, F5, c5, f5, A5, P5⟩ ih
  have S5 := F5.sh S2
  have x5 := x2.fx F5 stN
  have y5 := y2.fx F5 hD plN
  have v1 := plV_le T S k i
  by_cases hlt : i < T 433 k
  · have he := hD.ke k hk i hlt
    obtain ⟨-, sp5, pl5⟩ := toF h4 F5
    have kl := k_look S5 ha hP sp5 pl5 x5 y5 hD hR (e := T 434 (5 * k + i)) (A := plF T S k i) (i := i) he (by omega) f5 (plF_lt hD S k i) (fun p hp => (A5 p hp).1)
    simp (maxSteps := 3000000) (disch := first | assumption | omega) only [m_X4_foresee_L31, bO_v, bR_v, bX_l, bX_r, bC_l, bC_r, aLet_v, nI_add, pk_mul, dvI_n, rmI_n, iMax_n, iMin_n, zO_0, zO_1, li_0, li_1, li_2, li_3, li_4, li_5, li_6, li_7, li_8, li_9, li_10, li_12, li_14, li_15, li_16, li_18, li_19, li_20, li_22, li_23, li_24, li_26, li_29, li_30, li_31, li_32, li_36, li_38, li_48, li_50, li_57, li_58, li_59, li_60, li_63, li_97, li_99, li_120, li_122, li_144, li_168, li_194, li_240, li_255, li_284, li_299, li_603, li_999, li_1200, li_1440, li_4095, li_4096, li_6030, li_16384, li_20160, p_ek_gi S5 hP, y5.ken k hk, nI_ltI, p_eke_p S5 hP, p_eke_al S5 hP, y5.ke k hk i hlt, c_cU_gS S5]
    rw [if_pos hlt]
    refine ok_bR kl (fun _ h6 hh => ?_)
    obtain ⟨G1, G2, G3, G4, G5, G6⟩ := hh
    have S6 := G1.sh S5
    have F6 : Fx MUx h2 h6 := F5.trans (G1.mono (fun o j q => by unfold LKx at q; unfold MUx; omega))
    have g3 : h_iv h6 175 i = nI (plS T S k (plF T S k i) i) := G3
    have sl := plS_lt (T := T) (S := S) (k := k) (A := plF T S k i) (i := i)
    have next : ∀ v, v = plV T S k (i + 1) → OK (rec (nI v) (nI (i + 1)) h6) (fun r h1 => r = b2i (decide (T 430 k ≤ plV T S k (T 433 k))) ∧ MuF h h1 ∧ h_rv h1 172 0 = a ∧ h_rv h1 172 1 = P ∧ MuK T S k h1) := fun v hv => by
      refine ih _ _ _ _ (by omega) ⟨i + 1, hlt, rfl, rfl, by rw [hv], F6, by rw [G1.iv (fun q => by unfold LKx at q; omega)]; exact c5, G6, fun p hp => by rw [G1.iv (fun q => by unfold LKx at q; omega), G1.iv (fun q => by unfold LKx at q; omega)]; exact A5 p hp, fun j hj => ?_⟩
      by_cases e : j = i
      · rw [e]
        exact ⟨G2, G3, G4, G5⟩
      · rw [G1.iv (fun q => by unfold LKx at q; omega), G1.iv (fun q => by unfold LKx at q; omega), G1.iv (fun q => by unfold LKx at q; omega), G1.iv (fun q => by unfold LKx at q; omega)]
        exact P5 j (by omega)
    simp (maxSteps := 3000000) (disch := first | assumption | omega) only [bO_v, bR_v, bX_l, bX_r, bC_l, bC_r, aLet_v, nI_add, pk_mul, dvI_n, rmI_n, iMax_n, iMin_n, zO_0, zO_1, li_0, li_1, li_2, li_3, li_4, li_5, li_6, li_7, li_8, li_9, li_10, li_12, li_14, li_15, li_16, li_18, li_19, li_20, li_22, li_23, li_24, li_26, li_29, li_30, li_31, li_32, li_36, li_38, li_48, li_50, li_57, li_58, li_59, li_60, li_63, li_97, li_99, li_120, li_122, li_144, li_168, li_194, li_240, li_255, li_284, li_299, li_603, li_999, li_1200, li_1440, li_4095, li_4096, li_6030, li_16384, li_20160, c_pu2 S6, c_cu2_al S6, g3, nI_eq, aJ_v]
    by_cases c : plS T S k (plF T S k i) i = 0
    · rw [if_pos c]
      exact next _ (by rw [plV, if_neg (plS_0.mp c)])
    · rw [if_neg c]
      exact next _ (by
        rw [plV]
        by_cases c2 : plC T S k (plF T S k i) i = 0
        · rw [if_pos c2]; rfl
        · exact absurd (plS_0.mpr c2) c)
  · obtain rfl : i = T 433 k := by omega
    obtain ⟨q1, q2, q3⟩ := toF h4 F5
    simp (maxSteps := 3000000) (disch := first | assumption | omega) only [m_X4_foresee_L31, bO_v, bR_v, bX_l, bX_r, bC_l, bC_r, aLet_v, nI_add, pk_mul, dvI_n, rmI_n, iMax_n, iMin_n, zO_0, zO_1, li_0, li_1, li_2, li_3, li_4, li_5, li_6, li_7, li_8, li_9, li_10, li_12, li_14, li_15, li_16, li_18, li_19, li_20, li_22, li_23, li_24, li_26, li_29, li_30, li_31, li_32, li_36, li_38, li_48, li_50, li_57, li_58, li_59, li_60, li_63, li_97, li_99, li_120, li_122, li_144, li_168, li_194, li_240, li_255, li_284, li_299, li_603, li_999, li_1200, li_1440, li_4095, li_4096, li_6030, li_16384, li_20160, p_ek_gi S5 hP, y5.ken k hk, y5.ned k hk, nI_ltI, aJ_v]
    rw [if_neg hlt]
    by_cases c : plV T S k (T 433 k) < T 430 k
    · rw [if_pos c]
      exact ok_ret ⟨(b2i_f (decide_eq_false (by omega))).symm, q1, q2, q3, c5, f5, A5, P5⟩
    · rw [if_neg c]
      exact ok_ret ⟨(b2i_t (decide_eq_true (by omega))).symm, q1, q2, q3, c5, f5, A5, P5⟩
end
