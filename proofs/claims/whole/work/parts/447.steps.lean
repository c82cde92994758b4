/-! steps: no row of hand-ons helps where one alone does not -/
/-- what holds behind a call -/
def XI (h : aH) (a b : Nat) : Prop := (∃ T P Q, IV h T P Q) ∧ h_nx h ≤ a ∧ h_sl h ≤ b
/-- one call, of both -/
def QG (h : aH) (x : Option (Int32 × aH)) (y : aH → Option (Int32 × aH)) : Prop := ∃ k v, k < 5 ∧ OK x (fun r h1 => r = nI k ∧ (k = 0 → h_lv h1 448 0 = v.toInt64) ∧ OK (y h1) (fun b h2 => (k = 0 → b = v) ∧ h_iv h2 398 0 = nI k ∧ h_lv h2 448 0 = h_lv h1 448 0 ∧ XI h2 (h_nx h + 2) (h_sl h + 24)))
section
variable {h : aH} {T : Nat → Nat → Nat} {P Q : Nat}
theorem qg_mk {x : Option (Int32 × aH)} {y : aH → Option (Int32 × aH)} {k : Nat} {v : Int32} (I : IV h T P Q) (hk : k < 5) (hc : CQ 2 h x k v) (hr : ∀ h1, IV h1 T P Q → RQ h1 (y h1) k v) : QG h x y := by
  obtain ⟨r, h1, e1, q1, q2, q3⟩ := hc
  obtain ⟨b, h2, e2, q4, q5, q6, q7⟩ := hr h1 (I.go q2)
  refine ⟨k, v, hk, r, h1, e1, q1, q3, b, h2, e2, q7, q6, by rw [q5], ⟨T, P, Q, (I.go q2).go q4⟩, ?_, ?_⟩
  · have := q4.2.1
    have := q2.2.1
    omega
  · have := q4.2.2.1
    have := q2.2.2.1
    omega
theorem QQ.g {x : Option (Int32 × aH)} {y : aH → Option (Int32 × aH)} (I : IV h T P Q) (q : QQ h T P Q x y) : QG h x y := by
  obtain ⟨k, v, hk, hc, hr⟩ := q
  exact qg_mk I hk hc hr
/-- the row is another one now -/
theorem IV.row (I : IV h T P Q) {h1 : aH} {S : Nat → Nat} (x : RW h h1 S) (hb : RwB T S) (hs : StR h1 134 P T S) : IV h1 (setW T S) P Q := by
  obtain ⟨a1, a2, a3, a4, a5, a6, a7, a8, a9, a10, a11, a12, a13, a14, a15, a16, a17⟩ := I
  have pin : 4 ≤ P ∧ P + 65 ≤ 134 := by omega
  have stk : ∀ {a : Nat} {S : Nat → Nat}, (182 ≤ a ∧ a + 18 ≤ 398) → StR h a P T S → StR h1 a P T S := fun {a S} ha y => y.keep (fun o q1 q2 => x.1.iv (by omega)) (by rw [x.1.rv])
  refine ⟨x.1.sh a1, a2, by rw [x.1.rv]; exact a3, by rw [x.1.rv]; exact a4, x.ref a5 hb.1.all, a6, ?_, hb, hs, ?_, ?_, ?_, ?_, ?_, ?_, ?_, ?_⟩
  · exact a7.keep (fun o q1 q2 => x.1.iv (by omega)) a6
  · rw [x.1.iv (by decide)]; exact a10
  · rw [x.1.rv]; exact a11
  · rw [x.1.rv]; exact a12
  · intro i hi
    obtain ⟨m, m1, m2⟩ := a11 i (Nat.lt_of_lt_of_le hi a10.2)
    rw [x.1.rv]
    exact ⟨(a13 i hi).1, stk (by omega) (a13 i hi).2⟩
  · intro s hs
    obtain ⟨b1, b2, b3⟩ := a14 s hs
    exact ⟨by rw [x.1.iv (by decide)]; exact b1, b2, fun e => ⟨(b3 e).1, stk (by omega) (b3 e).2⟩⟩
  · rw [x.1.iv (by decide), x.1.iv (by decide)]; exact a15
  · rw [x.1.iv (by decide), x.1.iv (by decide)]; exact a16
  · refine ⟨?_, fun o k q1 q2 q3 => by rw [x.1.iv (by omega)]; exact a17.2 o k q1 q2 q3⟩
    obtain ⟨W, L, hW⟩ := a17.1
    exact ⟨W, L, fun s i hs hi => by rw [x.1.2.2.2.2.2.1]; exact hW s i hs hi⟩
theorem IV.gar (I : IV h T P Q) {h1 : aH} {S : Nat → Nat} (x : RW h h1 S) (e : ∀ j, ¬ garb (T 399) j → S j = T 399 j) (hb : ∀ j, S j < 2147483600) : IV h1 (setW T S) P Q := by
  refine I.row x (I.RB.ext I.D e hb) ?_
  exact (I.x.keep (fun o q1 q2 => x.1.iv (by omega)) (by rw [x.1.rv])).ext I.D I.R e
theorem garb_hd {S : Nat → Nat} {g p u j : Nat} (hg : g < 6) (h3 : S (194 + 15 * g + 8) < 3) (h : garb (hdS S g p u) j) : garb S j := by
  rcases h with h | ⟨g', k, q1, q2, q3, q4⟩
  · exact Or.inl h
  · refine Or.inr ⟨g', k, q1, ?_, q3, q4⟩
    by_cases c : g' = g
    · subst c; rw [hdS_n] at q2; omega
    · rw [hdS_o h3 (by omega)] at q2; exact q2
/-- a row of hand-ons that p cannot join, and one hand-on more -/
def noP (T : Nat → Nat → Nat) (S : Nat → Nat) (g p u : Nat) : Prop := RwD T S ∧ rsn T S g p (nI u) ≠ 0 ∧ u < 60000
theorem noP.more (hD : PlD T) {S : Nat → Nat} {g p u q : Nat} (x : noP T S g p u) (hg : g < T 398 9) (hp : p < T 398 8) (hq : q < T 398 8) (h0 : rsn T S g q (nI u) = 0) : S (194 + 15 * g + 8) < 3 ∧ noP T (hdS S g q u) g p u := by
  obtain ⟨a1, a2, a3, a4, a5, a6, a7, a8, a9⟩ := rsn_0.mp h0
  have tm := x.1.tm
  have el := endA_le hD x.1 hg
  have u6 := x.2.2
  rw [nI_leI (by omega) (by omega)] at a8 a9
  exact ⟨a7, hd_R hD x.1 hg hq a7 (by omega) a9, rsn_more hD x.1 hg hp h0 x.2.1, u6⟩
theorem noP.ext (hD : PlD T) {S S' : Nat → Nat} {g p u : Nat} (x : noP T S g p u) (hg : g < T 398 9) (hp : p < T 398 8) (e : ∀ j, ¬ garb S j → S' j = S j) (hb : ∀ j, S' j < 2147483600) : noP T S' g p u := by
  have r := x.1.ext hD e hb
  exact ⟨r, by rw [rsn_ext hD x.1 r e hg hp]; exact x.2.1, x.2.2⟩
theorem r_ag (z : RefR h T) (hS : Sh h) (hD : PlD T) {h1 : aH} {S : Nat → Nat} (x : RW h h1 S) (hR : RwD T S) {g p : Nat} (hg : g < T 398 9) (hp : p < T 398 8) (u : Int32) : m_X12_against 398 (nI g) (nI p) u h1 = some (nI (rsn T S g p u), h1) := by
  have e := r_against (T := setW T S) (x.1.sh hS) (x.ref z hR.all) hD (by rw [setW_w]; exact hR) hg hp u
  rw [setW_w] at e
  exact e
theorem r_stepsI (hS : Sh h) (z : RefR h T) (hD : PlD T) {h1 : aH} {S : Nat → Nat} {g p u : Nat} (hg : g < T 398 9) (hp : p < T 398 8) (x : RW h h1 S) (n : noP T S g p u) {k232 : Int32 → aH → Option (Int32 × aH)} {Z : Option (Int32 × aH) → Prop}
    (hk : ∀ h2 S', RW h h2 S' → (∀ j, ¬ garb S j → S' j = S j) → RwD T S' → Z (k232 (nI 9) h2)) : Z (aL2 (m_X12_steps_L154 398 (nI g) (nI p) (nI (194 + 15 * g)) (nI u) k232) FU (nI 9) (nI 0) h1) := by
  have d0 := hD.nP
  have d1 := hD.nG
  have n92 : ¬ 9 ≤ 2 := by decide
  have n93 : ¬ 9 ≤ 3 := by decide
  refine aL2_run (fun m s1 s2 h2 => ∃ i S', i ≤ T 398 8 ∧ m = T 398 8 - i ∧ s1 = nI 9 ∧ s2 = nI i ∧ RW h h2 S' ∧ (∀ j, ¬ garb S j → S' j = S j) ∧ RwD T S') ⟨0, S, Nat.zero_le _, rfl, rfl, rfl, x, fun _ _ => rfl, n.1⟩ (by omega) ?_
  rintro rec m s1 s2 h2 ⟨i, S', hi, rfl, rfl, rfl, x2, e2, R2⟩ ih
  have S2 := x2.1.sh hS
  have g8 : h_iv h2 398 8 = nI (T 398 8) := by rw [x2.1.iv (by decide)]; exact z.f8
  by_cases hlt : i < T 398 8
  · have ag := r_ag z hS hD x2 R2 hg hlt (nI u)
    have rl : rsn T S' g i (nI u) < 9 := by unfold rsn; (repeat' split) <;> omega
    simp (maxSteps := 3000000) (disch := first | assumption | omega) only [m_X12_steps_L154, bO_v, bR_v, bX_l, bX_r, bC_l, bC_r, aLet_v, nI_add, pk_mul, dvI_n, rmI_n, iMax_n, iMin_n, zO_0, zO_1, li_0, li_1, li_2, li_3, li_4, li_5, li_6, li_7, li_8, li_9, li_10, li_12, li_14, li_15, li_16, li_18, li_19, li_20, li_22, li_23, li_24, li_26, li_29, li_30, li_31, li_32, li_36, li_38, li_48, li_50, li_57, li_58, li_59, li_60, li_63, li_97, li_99, li_120, li_122, li_144, li_168, li_194, li_240, li_255, li_284, li_299, li_603, li_999, li_1200, li_1440, li_4095, li_4096, li_6030, li_16384, li_20160, r_cM_gi S2, g8, nI_ltI, nI_leI, r_cM_gS S2, ag, nI_eq]
    rw [if_pos hlt, if_neg n92]
    refine aJ_gen (fun k226 hk226 => ?_)
    by_cases c : rsn T S' g i (nI u) = 0
    · rw [if_pos c]
      have n2 := n.ext hD hg hp e2 R2.big
      obtain ⟨h3, n3⟩ := n2.more hD hg hp hlt c
      obtain ⟨_, h4, er, x4⟩ := r_hands_ S2 (p := i) (u := u) (show g < 6 by omega) x2.2 h3
      have x24 := x2.trans x4
      have S4 := x24.1.sh hS
      have ag4 := r_ag z hS hD x24 n3.1 hg hp (nI u)
      have rl4 : rsn T (hdS S' g i u) g p (nI u) < 9 := by unfold rsn; (repeat' split) <;> omega
      have v8 : h_iv h4 399 (194 + 15 * g + 8) = nI (S' (194 + 15 * g + 8) + 1) := by rw [x24.2, hdS_n]
      simp (maxSteps := 3000000) (disch := first | assumption | omega) only [er, bO_v, bR_v, bX_l, bX_r, bC_l, bC_r, aLet_v, nI_add, pk_mul, dvI_n, rmI_n, iMax_n, iMin_n, zO_0, zO_1, li_0, li_1, li_2, li_3, li_4, li_5, li_6, li_7, li_8, li_9, li_10, li_12, li_14, li_15, li_16, li_18, li_19, li_20, li_22, li_23, li_24, li_26, li_29, li_30, li_31, li_32, li_36, li_38, li_48, li_50, li_57, li_58, li_59, li_60, li_63, li_97, li_99, li_120, li_122, li_144, li_168, li_194, li_240, li_255, li_284, li_299, li_603, li_999, li_1200, li_1440, li_4095, li_4096, li_6030, li_16384, li_20160, r_cM_gS S4, ag4, nI_leI, nI_eq]
      refine aJ_gen (fun k213 hk213 => ?_)
      rw [if_neg n93, if_neg n3.2.1, hk213]
      simp (maxSteps := 3000000) (disch := first | assumption | omega) only [bO_v, bR_v, bX_l, bX_r, bC_l, bC_r, aLet_v, nI_add, pk_mul, dvI_n, rmI_n, iMax_n, iMin_n, zO_0, zO_1, li_0, li_1, li_2, li_3, li_4, li_5, li_6, li_7, li_8, li_9, li_10, li_12, li_14, li_15, li_16, li_18, li_19, li_20, li_22, li_23, li_24, li_26, li_29, li_30, li_31, li_32, li_36, li_38, li_48, li_50, li_57, li_58, li_59, li_60, li_63, li_97, li_99, li_120, li_122, li_144, li_168, li_194, li_240, li_255, li_284, li_299, li_603, li_999, li_1200, li_1440, li_4095, li_4096, li_6030, li_16384, li_20160, r_p399 S4, r_c399_al S4, r_c399_as S4, v8, pk_sub, Nat.add_sub_cancel]
      rw [hk226]
      simp only [bO_v, bR_v, bX_l, bX_r, bC_l, bC_r, aLet_v, nI_add, pk_mul, dvI_n, rmI_n, iMax_n, iMin_n, zO_0, zO_1, li_0, li_1, li_2, li_3, li_4, li_5, li_6, li_7, li_8, li_9, li_10, li_12, li_14, li_15, li_16, li_18, li_19, li_20, li_22, li_23, li_24, li_26, li_29, li_30, li_31, li_32, li_36, li_38, li_48, li_50, li_57, li_58, li_59, li_60, li_63, li_97, li_99, li_120, li_122, li_144, li_168, li_194, li_240, li_255, li_284, li_299, li_603, li_999, li_1200, li_1440, li_4095, li_4096, li_6030, li_16384, li_20160]
      have hd := hd_dr (T := T) (p := i) (u := u) hD hg h3
      refine ih _ _ _ _ (by omega) ⟨i + 1, drS (hdS S' g i u) g, hlt, rfl, rfl, rfl, (x24.si (v := S' (194 + 15 * g + 8)) rfl).to (fun j => ?_), garb_tr e2 hd, dr_R hD n3.1 hg⟩
      by_cases c9 : j = 194 + 15 * g + 8
      · rw [if_pos c9, c9, drS_n, hdS_n, Nat.add_sub_cancel]
      · rw [if_neg c9, drS_o c9]
    · rw [if_neg c, hk226]
      simp only [bO_v, bR_v, bX_l, bX_r, bC_l, bC_r, aLet_v, nI_add, pk_mul, dvI_n, rmI_n, iMax_n, iMin_n, zO_0, zO_1, li_0, li_1, li_2, li_3, li_4, li_5, li_6, li_7, li_8, li_9, li_10, li_12, li_14, li_15, li_16, li_18, li_19, li_20, li_22, li_23, li_24, li_26, li_29, li_30, li_31, li_32, li_36, li_38, li_48, li_50, li_57, li_58, li_59, li_60, li_63, li_97, li_99, li_120, li_122, li_144, li_168, li_194, li_240, li_255, li_284, li_299, li_603, li_999, li_1200, li_1440, li_4095, li_4096, li_6030, li_16384, li_20160]
      exact ih _ _ _ _ (by omega) ⟨i + 1, S', hlt, rfl, rfl, rfl, x2, e2, R2⟩
  · obtain rfl : i = T 398 8 := by omega
    simp (maxSteps := 3000000) (disch := first | assumption | omega) only [m_X12_steps_L154, bO_v, bR_v, bX_l, bX_r, bC_l, bC_r, aLet_v, nI_add, pk_mul, dvI_n, rmI_n, iMax_n, iMin_n, zO_0, zO_1, li_0, li_1, li_2, li_3, li_4, li_5, li_6, li_7, li_8, li_9, li_10, li_12, li_14, li_15, li_16, li_18, li_19, li_20, li_22, li_23, li_24, li_26, li_29, li_30, li_31, li_32, li_36, li_38, li_48, li_50, li_57, li_58, li_59, li_60, li_63, li_97, li_99, li_120, li_122, li_144, li_168, li_194, li_240, li_255, li_284, li_299, li_603, li_999, li_1200, li_1440, li_4095, li_4096, li_6030, li_16384, li_20160, r_cM_gi S2, g8, nI_ltI]
    rw [if_neg hlt]
    exact hk h2 S' x2 e2 R2
theorem r_stepsO (hS : Sh h) (z : RefR h T) (hD : PlD T) (hR : RwD T (T 399)) {g p u : Nat} (hg : g < T 398 9) (hp : p < T 398 8) (n : noP T (T 399) g p u) {k249 : Int32 → aH → Option (Int32 × aH)} {Z : Option (Int32 × aH) → Prop}
    (hk : ∀ h2 S', RW h h2 S' → (∀ j, ¬ garb (T 399) j → S' j = T 399 j) → RwD T S' → Z (k249 (nI 9) h2)) : Z (aL2 (m_X12_steps_L92 398 (nI g) (nI p) (nI (194 + 15 * g)) (nI (T 399 (194 + 15 * g + 8))) (nI u) k249) FU (nI 9) (nI 0) h) := by
  have d0 := hD.nP
  have d1 := hD.nG
  have n91 : ¬ 9 ≤ 1 := by decide
  have n92 : ¬ 9 ≤ 2 := by decide
  refine aL2_run (fun m s1 s2 h2 => ∃ i S', i ≤ T 398 8 ∧ m = T 398 8 - i ∧ s1 = nI 9 ∧ s2 = nI i ∧ RW h h2 S' ∧ (∀ j, ¬ garb (T 399) j → S' j = T 399 j) ∧ RwD T S') ⟨0, T 399, Nat.zero_le _, rfl, rfl, rfl, ⟨Fr.rf, z.c399⟩, fun _ _ => rfl, n.1⟩ (by omega) ?_
  rintro rec m s1 s2 h2 ⟨i, S', hi, rfl, rfl, rfl, x2, e2, R2⟩ ih
  have S2 := x2.1.sh hS
  have g8 : h_iv h2 398 8 = nI (T 398 8) := by rw [x2.1.iv (by decide)]; exact z.f8
  by_cases hlt : i < T 398 8
  · have ag := r_ag z hS hD x2 R2 hg hlt (nI u)
    have rl : rsn T S' g i (nI u) < 9 := by unfold rsn; (repeat' split) <;> omega
    simp (maxSteps := 3000000) (disch := first | assumption | omega) only [m_X12_steps_L92, bO_v, bR_v, bX_l, bX_r, bC_l, bC_r, aLet_v, nI_add, pk_mul, dvI_n, rmI_n, iMax_n, iMin_n, zO_0, zO_1, li_0, li_1, li_2, li_3, li_4, li_5, li_6, li_7, li_8, li_9, li_10, li_12, li_14, li_15, li_16, li_18, li_19, li_20, li_22, li_23, li_24, li_26, li_29, li_30, li_31, li_32, li_36, li_38, li_48, li_50, li_57, li_58, li_59, li_60, li_63, li_97, li_99, li_120, li_122, li_144, li_168, li_194, li_240, li_255, li_284, li_299, li_603, li_999, li_1200, li_1440, li_4095, li_4096, li_6030, li_16384, li_20160, r_cM_gi S2, g8, nI_ltI, nI_leI, r_cM_gS S2, ag, nI_eq]
    rw [if_pos hlt, if_neg n91]
    refine aJ_gen (fun k243 hk243 => ?_)
    by_cases c : rsn T S' g i (nI u) = 0
    · rw [if_pos c]
      have n2 := n.ext hD hg hp e2 R2.big
      obtain ⟨h3, n3⟩ := n2.more hD hg hp hlt c
      obtain ⟨_, h4, er, x4⟩ := r_hands_ S2 (p := i) (u := u) (show g < 6 by omega) x2.2 h3
      have x24 := x2.trans x4
      have S4 := x24.1.sh hS
      have ag4 := r_ag z hS hD x24 n3.1 hg hp (nI u)
      have rl4 : rsn T (hdS S' g i u) g p (nI u) < 9 := by unfold rsn; (repeat' split) <;> omega
      simp (maxSteps := 3000000) (disch := first | assumption | omega) only [er, bO_v, bR_v, bX_l, bX_r, bC_l, bC_r, aLet_v, nI_add, pk_mul, dvI_n, rmI_n, iMax_n, iMin_n, zO_0, zO_1, li_0, li_1, li_2, li_3, li_4, li_5, li_6, li_7, li_8, li_9, li_10, li_12, li_14, li_15, li_16, li_18, li_19, li_20, li_22, li_23, li_24, li_26, li_29, li_30, li_31, li_32, li_36, li_38, li_48, li_50, li_57, li_58, li_59, li_60, li_63, li_97, li_99, li_120, li_122, li_144, li_168, li_194, li_240, li_255, li_284, li_299, li_603, li_999, li_1200, li_1440, li_4095, li_4096, li_6030, li_16384, li_20160, r_cM_gS S4, ag4, nI_leI, nI_eq]
      refine aJ_gen (fun k151 hk151 => ?_)
      rw [if_neg n92, if_neg n3.2.1, hk151]
      simp only [bO_v, bR_v, bX_l, bX_r, bC_l, bC_r, aLet_v, nI_add, pk_mul, dvI_n, rmI_n, iMax_n, iMin_n, zO_0, zO_1, li_0, li_1, li_2, li_3, li_4, li_5, li_6, li_7, li_8, li_9, li_10, li_12, li_14, li_15, li_16, li_18, li_19, li_20, li_22, li_23, li_24, li_26, li_29, li_30, li_31, li_32, li_36, li_38, li_48, li_50, li_57, li_58, li_59, li_60, li_63, li_97, li_99, li_120, li_122, li_144, li_168, li_194, li_240, li_255, li_284, li_299, li_603, li_999, li_1200, li_1440, li_4095, li_4096, li_6030, li_16384, li_20160]
      refine aJ_gen (fun k232 hk232 => ?_)
      refine r_stepsI hS z hD hg hp x24 n3 (fun h5 S5 x5 e5 R5 => ?_)
      have S5h := x5.1.sh hS
      have hh := e2 (194 + 15 * g + 8) (ng (by omega) (by omega))
      have had := hR.hn g hg
      rw [hk232]
      simp (maxSteps := 3000000) (disch := first | assumption | omega) only [bO_v, bR_v, bX_l, bX_r, bC_l, bC_r, aLet_v, nI_add, pk_mul, dvI_n, rmI_n, iMax_n, iMin_n, zO_0, zO_1, li_0, li_1, li_2, li_3, li_4, li_5, li_6, li_7, li_8, li_9, li_10, li_12, li_14, li_15, li_16, li_18, li_19, li_20, li_22, li_23, li_24, li_26, li_29, li_30, li_31, li_32, li_36, li_38, li_48, li_50, li_57, li_58, li_59, li_60, li_63, li_97, li_99, li_120, li_122, li_144, li_168, li_194, li_240, li_255, li_284, li_299, li_603, li_999, li_1200, li_1440, li_4095, li_4096, li_6030, li_16384, li_20160, r_p399 S5h, r_c399_as S5h]
      rw [hk243]
      simp only [bO_v, bR_v, bX_l, bX_r, bC_l, bC_r, aLet_v, nI_add, pk_mul, dvI_n, rmI_n, iMax_n, iMin_n, zO_0, zO_1, li_0, li_1, li_2, li_3, li_4, li_5, li_6, li_7, li_8, li_9, li_10, li_12, li_14, li_15, li_16, li_18, li_19, li_20, li_22, li_23, li_24, li_26, li_29, li_30, li_31, li_32, li_36, li_38, li_48, li_50, li_57, li_58, li_59, li_60, li_63, li_97, li_99, li_120, li_122, li_144, li_168, li_194, li_240, li_255, li_284, li_299, li_603, li_999, li_1200, li_1440, li_4095, li_4096, li_6030, li_16384, li_20160]
      have ee : ∀ j, ¬ garb S' j → (if j = 194 + 15 * g + 8 then T 399 (194 + 15 * g + 8) else S5 j) = S' j := fun j hj => by
        by_cases c9 : j = 194 + 15 * g + 8
        · rw [if_pos c9, c9, hh]
        · rw [if_neg c9, e5 j (fun q => hj (garb_hd (by omega) h3 q))]
          unfold hdS
          rw [if_neg c9, if_neg (fun c8 => hj (Or.inr ⟨g, S' (194 + 15 * g + 8), by omega, Nat.le_refl _, h3, Or.inl c8⟩)), if_neg (fun c8 => hj (Or.inr ⟨g, S' (194 + 15 * g + 8), by omega, Nat.le_refl _, h3, Or.inr c8⟩))]
      have bb : ∀ j, (if j = 194 + 15 * g + 8 then T 399 (194 + 15 * g + 8) else S5 j) < 2147483600 := fun j => by
        split
        · omega
        · exact R5.big j
      exact ih _ _ _ _ (by omega) ⟨i + 1, fun j => if j = 194 + 15 * g + 8 then T 399 (194 + 15 * g + 8) else S5 j, hlt, rfl, rfl, rfl, x5.si rfl, garb_tr e2 ee, R2.ext hD ee bb⟩
    · rw [if_neg c, hk243]
      simp only [bO_v, bR_v, bX_l, bX_r, bC_l, bC_r, aLet_v, nI_add, pk_mul, dvI_n, rmI_n, iMax_n, iMin_n, zO_0, zO_1, li_0, li_1, li_2, li_3, li_4, li_5, li_6, li_7, li_8, li_9, li_10, li_12, li_14, li_15, li_16, li_18, li_19, li_20, li_22, li_23, li_24, li_26, li_29, li_30, li_31, li_32, li_36, li_38, li_48, li_50, li_57, li_58, li_59, li_60, li_63, li_97, li_99, li_120, li_122, li_144, li_168, li_194, li_240, li_255, li_284, li_299, li_603, li_999, li_1200, li_1440, li_4095, li_4096, li_6030, li_16384, li_20160]
      exact ih _ _ _ _ (by omega) ⟨i + 1, S', hlt, rfl, rfl, rfl, x2, e2, R2⟩
  · obtain rfl : i = T 398 8 := by omega
    simp (maxSteps := 3000000) (disch := first | assumption | omega) only [m_X12_steps_L92, bO_v, bR_v, bX_l, bX_r, bC_l, bC_r, aLet_v, nI_add, pk_mul, dvI_n, rmI_n, iMax_n, iMin_n, zO_0, zO_1, li_0, li_1, li_2, li_3, li_4, li_5, li_6, li_7, li_8, li_9, li_10, li_12, li_14, li_15, li_16, li_18, li_19, li_20, li_22, li_23, li_24, li_26, li_29, li_30, li_31, li_32, li_36, li_38, li_48, li_50, li_57, li_58, li_59, li_60, li_63, li_97, li_99, li_120, li_122, li_144, li_168, li_194, li_240, li_255, li_284, li_299, li_603, li_999, li_1200, li_1440, li_4095, li_4096, li_6030, li_16384, li_20160, r_cM_gi S2, g8, nI_ltI]
    rw [if_neg hlt]
    exact hk h2 S' x2 e2 R2
theorem q_steps (I : IV h T P Q) (g p : Int32) : QG h (m_L_steps 1 g p 448 h) (m_X12_steps 398 g p) := by
  have hS := I.sh
  have hD := I.D
  have hR := I.R
  have hP := I.hP
  have y := I.y
  have d0 := hD.nP
  have d1 := hD.nG
  have d2 := hD.nE
  have d3 := hD.nK
  have d4 := hR.tm
  obtain ⟨a, ha, g5, x, -⟩ := I.st
  cases c : inr g (T 398 9)
  · refine qg_mk (k := 1) (v := 0) I (by decide) (cq_exc ?_ (by decide)) (fun h1 I1 => ?_)
    · simp (maxSteps := 3000000) (disch := first | assumption | omega | exact hR.all _) only [m_L_steps, m_X11_steps, bO_v, bR_v, bX_l, bX_r, bC_l, bC_r, aJ_v, aLet_v, nI_add, pk_mul, dvI_n, rmI_n, iMax_n, iMin_n, zO_0, zO_1, li_0, li_1, li_2, li_3, li_4, li_5, li_6, li_7, li_8, li_9, li_10, li_12, li_14, li_15, li_16, li_18, li_19, li_20, li_22, li_23, li_24, li_26, li_29, li_30, li_31, li_32, li_36, li_38, li_48, li_50, li_57, li_58, li_59, li_60, li_63, li_97, li_99, li_120, li_122, li_144, li_168, li_194, li_240, li_255, li_284, li_299, li_603, li_999, li_1200, li_1440, li_4095, li_4096, li_6030, li_16384, li_20160, c_cX_gS hS, c_cX_gi hS, c_pmu hS, c_co_as hS, s_cS_gi hS ha, s_cS_gL hS ha, s_cS_pi hS ha, s_cS_pL hS ha, s_cS_gS hS ha, s_clost_al hS ha, s_clost_as hS ha, s_clost_ln hS ha, s_cout_al hS ha, s_cout_as hS ha, s_cout_ln hS ha, s_cpaid_al hS ha, s_cpaid_as hS ha, s_cpaid_ln hS ha, s_ctrust_al hS ha, s_ctrust_as hS ha, s_ctrust_ln hS ha, s_crot_al hS ha, s_crot_as hS ha, s_crot_ln hS ha, s_chands_al hS ha, s_chands_as hS ha, s_chands_ln hS ha, s_cto_al hS ha, s_cto_as hS ha, s_cto_ln hS ha, s_cends_al hS ha, s_cends_as hS ha, s_cends_ln hS ha, s_cret_al hS ha, s_cret_as hS ha, s_cret_ln hS ha, s_ccrew_al hS ha, s_ccrew_as hS ha, s_ccrew_ln hS ha, s_cL_gi hS ha, s_cL_gL hS ha, s_cL_pi hS ha, s_cL_pL hS ha, s_cL_gS hS ha, s_clcosts_al hS ha, s_clcosts_as hS ha, s_clcosts_ln hS ha, s_clcomers_al hS ha, s_clcomers_as hS ha, s_clcomers_ln hS ha, s_clleavers_al hS ha, s_clleavers_as hS ha, s_clleavers_ln hS ha, s_clengs_al hS ha, s_clengs_as hS ha, s_clengs_ln hS ha, s_cltimes_al hS ha, s_cltimes_as hS ha, s_cltimes_ln hS ha, s_clcrews_al hS ha, s_clcrews_as hS ha, s_clcrews_ln hS ha, s_plost hS ha, s_pout hS ha, s_ppaid hS ha, s_ptrust hS ha, s_prot hS ha, s_phands hS ha, s_pto hS ha, s_pends hS ha, s_pret hS ha, s_pcrew hS ha, s_plog hS ha, s_plcosts hS ha, s_plcomers hS ha, s_plleavers hS ha, s_plengs hS ha, s_pltimes hS ha, s_plcrews hS ha, p_cP_gi hS hP, p_cP_gL hS hP, p_cP_pi hS hP, p_cP_pL hS hP, p_cP_gS hS hP, p_cN_gi hS hP, p_cN_gL hS hP, p_cN_pi hS hP, p_cN_pL hS hP, p_cN_gS hS hP, p_cps_ln hS hP, p_ctr_al hS hP, p_ctr_as hS hP, p_ctr_ln hS hP, p_cgs_ln hS hP, p_ces_ln hS hP, p_cks_ln hS hP, p_cable_al hS hP, p_cable_as hS hP, p_cable_ln hS hP, p_pN hS hP, p_pps hS hP, p_ptr hS hP, p_pgs hS hP, p_pes hS hP, p_pks hS hP, p_pable hS hP, p_ep_al hS hP, p_ep_gi hS hP, p_ep_gL hS hP, p_ep_pi hS hP, p_ep_pL hS hP, p_ep_gS hS hP, p_eg_al hS hP, p_eg_gi hS hP, p_eg_gL hS hP, p_eg_pi hS hP, p_eg_pL hS hP, p_eg_gS hS hP, p_egr_p hS hP, p_egr_al hS hP, p_egr_as hS hP, p_egr_ln hS hP, p_ee_al hS hP, p_ee_gi hS hP, p_ee_gL hS hP, p_ee_pi hS hP, p_ee_pL hS hP, p_ee_gS hS hP, p_ees_p hS hP, p_ees_al hS hP, p_ees_as hS hP, p_ees_ln hS hP, p_eed_p hS hP, p_eed_al hS hP, p_eed_as hS hP, p_eed_ln hS hP, p_ek_al hS hP, p_ek_gi hS hP, p_ek_gL hS hP, p_ek_pi hS hP, p_ek_pL hS hP, p_ek_gS hS hP, p_ekg_p hS hP, p_ekg_al hS hP, p_ekg_as hS hP, p_ekg_ln hS hP, p_eke_p hS hP, p_eke_al hS hP, p_eke_as hS hP, p_eke_ln hS hP, g5, I.g3, b2i_0, I.needPerson, I.needPager, I.needEngine, I.needKind, I.needCall, I.needTwo, c]
    · have S1 := I1.sh
      refine rq_exc (w := nI 0) ?_ (by decide)
      simp (maxSteps := 3000000) (disch := first | assumption | omega | exact hR.all _) only [m_X12_steps, bO_v, bR_v, bX_l, bX_r, bC_l, bC_r, aJ_v, aLet_v, nI_add, pk_mul, dvI_n, rmI_n, iMax_n, iMin_n, zO_0, zO_1, li_0, li_1, li_2, li_3, li_4, li_5, li_6, li_7, li_8, li_9, li_10, li_12, li_14, li_15, li_16, li_18, li_19, li_20, li_22, li_23, li_24, li_26, li_29, li_30, li_31, li_32, li_36, li_38, li_48, li_50, li_57, li_58, li_59, li_60, li_63, li_97, li_99, li_120, li_122, li_144, li_168, li_194, li_240, li_255, li_284, li_299, li_603, li_999, li_1200, li_1440, li_4095, li_4096, li_6030, li_16384, li_20160, r_cM_gS S1, r_cM_pi S1, rz_gi S1, r_p399 S1, r_c399_al S1, r_isPerson S1 I1.z hD, r_isPager S1 I1.z hD, r_isKind S1 I1.z hD, r_isCouple S1 I1.z hD, b2i_0, nI_leI, c]
  · cases c2 : inr p (T 398 8)
    · refine qg_mk (k := 1) (v := 0) I (by decide) (cq_exc ?_ (by decide)) (fun h1 I1 => ?_)
      · simp (maxSteps := 3000000) (disch := first | assumption | omega | exact hR.all _) only [m_L_steps, m_X11_steps, bO_v, bR_v, bX_l, bX_r, bC_l, bC_r, aJ_v, aLet_v, nI_add, pk_mul, dvI_n, rmI_n, iMax_n, iMin_n, zO_0, zO_1, li_0, li_1, li_2, li_3, li_4, li_5, li_6, li_7, li_8, li_9, li_10, li_12, li_14, li_15, li_16, li_18, li_19, li_20, li_22, li_23, li_24, li_26, li_29, li_30, li_31, li_32, li_36, li_38, li_48, li_50, li_57, li_58, li_59, li_60, li_63, li_97, li_99, li_120, li_122, li_144, li_168, li_194, li_240, li_255, li_284, li_299, li_603, li_999, li_1200, li_1440, li_4095, li_4096, li_6030, li_16384, li_20160, c_cX_gS hS, c_cX_gi hS, c_pmu hS, c_co_as hS, s_cS_gi hS ha, s_cS_gL hS ha, s_cS_pi hS ha, s_cS_pL hS ha, s_cS_gS hS ha, s_clost_al hS ha, s_clost_as hS ha, s_clost_ln hS ha, s_cout_al hS ha, s_cout_as hS ha, s_cout_ln hS ha, s_cpaid_al hS ha, s_cpaid_as hS ha, s_cpaid_ln hS ha, s_ctrust_al hS ha, s_ctrust_as hS ha, s_ctrust_ln hS ha, s_crot_al hS ha, s_crot_as hS ha, s_crot_ln hS ha, s_chands_al hS ha, s_chands_as hS ha, s_chands_ln hS ha, s_cto_al hS ha, s_cto_as hS ha, s_cto_ln hS ha, s_cends_al hS ha, s_cends_as hS ha, s_cends_ln hS ha, s_cret_al hS ha, s_cret_as hS ha, s_cret_ln hS ha, s_ccrew_al hS ha, s_ccrew_as hS ha, s_ccrew_ln hS ha, s_cL_gi hS ha, s_cL_gL hS ha, s_cL_pi hS ha, s_cL_pL hS ha, s_cL_gS hS ha, s_clcosts_al hS ha, s_clcosts_as hS ha, s_clcosts_ln hS ha, s_clcomers_al hS ha, s_clcomers_as hS ha, s_clcomers_ln hS ha, s_clleavers_al hS ha, s_clleavers_as hS ha, s_clleavers_ln hS ha, s_clengs_al hS ha, s_clengs_as hS ha, s_clengs_ln hS ha, s_cltimes_al hS ha, s_cltimes_as hS ha, s_cltimes_ln hS ha, s_clcrews_al hS ha, s_clcrews_as hS ha, s_clcrews_ln hS ha, s_plost hS ha, s_pout hS ha, s_ppaid hS ha, s_ptrust hS ha, s_prot hS ha, s_phands hS ha, s_pto hS ha, s_pends hS ha, s_pret hS ha, s_pcrew hS ha, s_plog hS ha, s_plcosts hS ha, s_plcomers hS ha, s_plleavers hS ha, s_plengs hS ha, s_pltimes hS ha, s_plcrews hS ha, p_cP_gi hS hP, p_cP_gL hS hP, p_cP_pi hS hP, p_cP_pL hS hP, p_cP_gS hS hP, p_cN_gi hS hP, p_cN_gL hS hP, p_cN_pi hS hP, p_cN_pL hS hP, p_cN_gS hS hP, p_cps_ln hS hP, p_ctr_al hS hP, p_ctr_as hS hP, p_ctr_ln hS hP, p_cgs_ln hS hP, p_ces_ln hS hP, p_cks_ln hS hP, p_cable_al hS hP, p_cable_as hS hP, p_cable_ln hS hP, p_pN hS hP, p_pps hS hP, p_ptr hS hP, p_pgs hS hP, p_pes hS hP, p_pks hS hP, p_pable hS hP, p_ep_al hS hP, p_ep_gi hS hP, p_ep_gL hS hP, p_ep_pi hS hP, p_ep_pL hS hP, p_ep_gS hS hP, p_eg_al hS hP, p_eg_gi hS hP, p_eg_gL hS hP, p_eg_pi hS hP, p_eg_pL hS hP, p_eg_gS hS hP, p_egr_p hS hP, p_egr_al hS hP, p_egr_as hS hP, p_egr_ln hS hP, p_ee_al hS hP, p_ee_gi hS hP, p_ee_gL hS hP, p_ee_pi hS hP, p_ee_pL hS hP, p_ee_gS hS hP, p_ees_p hS hP, p_ees_al hS hP, p_ees_as hS hP, p_ees_ln hS hP, p_eed_p hS hP, p_eed_al hS hP, p_eed_as hS hP, p_eed_ln hS hP, p_ek_al hS hP, p_ek_gi hS hP, p_ek_gL hS hP, p_ek_pi hS hP, p_ek_pL hS hP, p_ek_gS hS hP, p_ekg_p hS hP, p_ekg_al hS hP, p_ekg_as hS hP, p_ekg_ln hS hP, p_eke_p hS hP, p_eke_al hS hP, p_eke_as hS hP, p_eke_ln hS hP, g5, I.g3, b2i_0, I.needPerson, I.needPager, I.needEngine, I.needKind, I.needCall, I.needTwo, c, c2]
      · have S1 := I1.sh
        refine rq_exc (w := nI 0) ?_ (by decide)
        simp (maxSteps := 3000000) (disch := first | assumption | omega | exact hR.all _) only [m_X12_steps, bO_v, bR_v, bX_l, bX_r, bC_l, bC_r, aJ_v, aLet_v, nI_add, pk_mul, dvI_n, rmI_n, iMax_n, iMin_n, zO_0, zO_1, li_0, li_1, li_2, li_3, li_4, li_5, li_6, li_7, li_8, li_9, li_10, li_12, li_14, li_15, li_16, li_18, li_19, li_20, li_22, li_23, li_24, li_26, li_29, li_30, li_31, li_32, li_36, li_38, li_48, li_50, li_57, li_58, li_59, li_60, li_63, li_97, li_99, li_120, li_122, li_144, li_168, li_194, li_240, li_255, li_284, li_299, li_603, li_999, li_1200, li_1440, li_4095, li_4096, li_6030, li_16384, li_20160, r_cM_gS S1, r_cM_pi S1, rz_gi S1, r_p399 S1, r_c399_al S1, r_isPerson S1 I1.z hD, r_isPager S1 I1.z hD, r_isKind S1 I1.z hD, r_isCouple S1 I1.z hD, b2i_0, nI_leI, c, c2]
    · obtain ⟨g, hg, rfl⟩ := inr_t c (by omega)
      obtain ⟨p, hp, rfl⟩ := inr_t c2 (by omega)
      have hn := hold_now hR hg
      have hl := link_lt hD hR hg (Nat.le_refl (T 399 (194 + 15 * g + 8)))
      have kh := k_holderThen hS ha hP x y hD hR hg (show T 399 0 < 1000000 by omega)
      rw [hn] at kh
      have ke := k_endAt hS ha hP x y hD hR hg (show T 399 0 < 1000000 by omega)
      have kr := k_reason hS ha hP x y hD hR hg hp (nI (endA T (T 399) g (T 399 0)))
      by_cases c3 : link T (T 399) g (T 399 (194 + 15 * g + 8)) = p
      · refine qg_mk (k := 0) (v := nI 0) I (by decide) (cq_val ?_) (fun h1 I1 => ?_)
        · simp (maxSteps := 3000000) (disch := first | assumption | omega | exact hR.all _) only [m_L_steps, m_X11_steps, bO_v, bR_v, bX_l, bX_r, bC_l, bC_r, aJ_v, aLet_v, nI_add, pk_mul, dvI_n, rmI_n, iMax_n, iMin_n, zO_0, zO_1, li_0, li_1, li_2, li_3, li_4, li_5, li_6, li_7, li_8, li_9, li_10, li_12, li_14, li_15, li_16, li_18, li_19, li_20, li_22, li_23, li_24, li_26, li_29, li_30, li_31, li_32, li_36, li_38, li_48, li_50, li_57, li_58, li_59, li_60, li_63, li_97, li_99, li_120, li_122, li_144, li_168, li_194, li_240, li_255, li_284, li_299, li_603, li_999, li_1200, li_1440, li_4095, li_4096, li_6030, li_16384, li_20160, c_cX_gS hS, c_cX_gi hS, c_pmu hS, c_co_as hS, s_cS_gi hS ha, s_cS_gL hS ha, s_cS_pi hS ha, s_cS_pL hS ha, s_cS_gS hS ha, s_clost_al hS ha, s_clost_as hS ha, s_clost_ln hS ha, s_cout_al hS ha, s_cout_as hS ha, s_cout_ln hS ha, s_cpaid_al hS ha, s_cpaid_as hS ha, s_cpaid_ln hS ha, s_ctrust_al hS ha, s_ctrust_as hS ha, s_ctrust_ln hS ha, s_crot_al hS ha, s_crot_as hS ha, s_crot_ln hS ha, s_chands_al hS ha, s_chands_as hS ha, s_chands_ln hS ha, s_cto_al hS ha, s_cto_as hS ha, s_cto_ln hS ha, s_cends_al hS ha, s_cends_as hS ha, s_cends_ln hS ha, s_cret_al hS ha, s_cret_as hS ha, s_cret_ln hS ha, s_ccrew_al hS ha, s_ccrew_as hS ha, s_ccrew_ln hS ha, s_cL_gi hS ha, s_cL_gL hS ha, s_cL_pi hS ha, s_cL_pL hS ha, s_cL_gS hS ha, s_clcosts_al hS ha, s_clcosts_as hS ha, s_clcosts_ln hS ha, s_clcomers_al hS ha, s_clcomers_as hS ha, s_clcomers_ln hS ha, s_clleavers_al hS ha, s_clleavers_as hS ha, s_clleavers_ln hS ha, s_clengs_al hS ha, s_clengs_as hS ha, s_clengs_ln hS ha, s_cltimes_al hS ha, s_cltimes_as hS ha, s_cltimes_ln hS ha, s_clcrews_al hS ha, s_clcrews_as hS ha, s_clcrews_ln hS ha, s_plost hS ha, s_pout hS ha, s_ppaid hS ha, s_ptrust hS ha, s_prot hS ha, s_phands hS ha, s_pto hS ha, s_pends hS ha, s_pret hS ha, s_pcrew hS ha, s_plog hS ha, s_plcosts hS ha, s_plcomers hS ha, s_plleavers hS ha, s_plengs hS ha, s_pltimes hS ha, s_plcrews hS ha, p_cP_gi hS hP, p_cP_gL hS hP, p_cP_pi hS hP, p_cP_pL hS hP, p_cP_gS hS hP, p_cN_gi hS hP, p_cN_gL hS hP, p_cN_pi hS hP, p_cN_pL hS hP, p_cN_gS hS hP, p_cps_ln hS hP, p_ctr_al hS hP, p_ctr_as hS hP, p_ctr_ln hS hP, p_cgs_ln hS hP, p_ces_ln hS hP, p_cks_ln hS hP, p_cable_al hS hP, p_cable_as hS hP, p_cable_ln hS hP, p_pN hS hP, p_pps hS hP, p_ptr hS hP, p_pgs hS hP, p_pes hS hP, p_pks hS hP, p_pable hS hP, p_ep_al hS hP, p_ep_gi hS hP, p_ep_gL hS hP, p_ep_pi hS hP, p_ep_pL hS hP, p_ep_gS hS hP, p_eg_al hS hP, p_eg_gi hS hP, p_eg_gL hS hP, p_eg_pi hS hP, p_eg_pL hS hP, p_eg_gS hS hP, p_egr_p hS hP, p_egr_al hS hP, p_egr_as hS hP, p_egr_ln hS hP, p_ee_al hS hP, p_ee_gi hS hP, p_ee_gL hS hP, p_ee_pi hS hP, p_ee_pL hS hP, p_ee_gS hS hP, p_ees_p hS hP, p_ees_al hS hP, p_ees_as hS hP, p_ees_ln hS hP, p_eed_p hS hP, p_eed_al hS hP, p_eed_as hS hP, p_eed_ln hS hP, p_ek_al hS hP, p_ek_gi hS hP, p_ek_gL hS hP, p_ek_pi hS hP, p_ek_pL hS hP, p_ek_gS hS hP, p_ekg_p hS hP, p_ekg_al hS hP, p_ekg_as hS hP, p_ekg_ln hS hP, p_eke_p hS hP, p_eke_al hS hP, p_eke_as hS hP, p_eke_ln hS hP, g5, I.g3, b2i_0, I.needPerson, I.needPager, I.needEngine, I.needKind, I.needCall, I.needTwo, c, c2, x.tm, kh, nI_eq, c3]
        · have S1 := I1.sh
          have S0 : Sh (h_si h1 398 0 (nI 0)) := S1.si _ _ _
          have z0 : RefR (h_si h1 398 0 (nI 0)) T := I1.z.rz
          refine rq_val ?_
          simp (maxSteps := 3000000) (disch := first | assumption | omega | exact hR.all _) only [m_X12_steps, bO_v, bR_v, bX_l, bX_r, bC_l, bC_r, aJ_v, aLet_v, nI_add, pk_mul, dvI_n, rmI_n, iMax_n, iMin_n, zO_0, zO_1, li_0, li_1, li_2, li_3, li_4, li_5, li_6, li_7, li_8, li_9, li_10, li_12, li_14, li_15, li_16, li_18, li_19, li_20, li_22, li_23, li_24, li_26, li_29, li_30, li_31, li_32, li_36, li_38, li_48, li_50, li_57, li_58, li_59, li_60, li_63, li_97, li_99, li_120, li_122, li_144, li_168, li_194, li_240, li_255, li_284, li_299, li_603, li_999, li_1200, li_1440, li_4095, li_4096, li_6030, li_16384, li_20160, r_cM_gS S1, r_cM_pi S1, rz_gi S1, r_p399 S1, r_c399_al S1, r_isPerson S1 I1.z hD, r_isPager S1 I1.z hD, r_isKind S1 I1.z hD, r_isCouple S1 I1.z hD, b2i_0, nI_leI, c, c2, r_cM_gS S0, r_holder S0 z0 hD hR hg, nI_eq, c3]
      · have rl : rsn T (T 399) g p (nI (endA T (T 399) g (T 399 0))) < 9 := by unfold rsn; (repeat' split) <;> omega
        have fu : ∀ h9, Sh h9 → ∀ k, aL2 (m_X12_steps_L92 398 (nI g) (nI p) (nI (194 + 15 * g)) (nI (T 399 (194 + 15 * g + 8))) (nI (endA T (T 399) g (T 399 0))) k) FU (nI 1) (nI 0) h9 = k (nI 1) h9 := fun h9 S9 k => by
          refine aL2_run (R := fun o => o = k (nI 1) h9) (fun m s1 s2 h2 => h2 = h9 ∧ s1 = nI 1) (m := 0) ⟨rfl, rfl⟩ (by decide) ?_
          rintro rec m s1 s2 h2 ⟨rfl, rfl⟩ -
          simp (maxSteps := 3000000) (disch := first | assumption | omega | exact hR.all _) only [m_X12_steps_L92, bO_v, bR_v, bX_l, bX_r, bC_l, bC_r, aLet_v, nI_add, pk_mul, dvI_n, rmI_n, iMax_n, iMin_n, zO_0, zO_1, li_0, li_1, li_2, li_3, li_4, li_5, li_6, li_7, li_8, li_9, li_10, li_12, li_14, li_15, li_16, li_18, li_19, li_20, li_22, li_23, li_24, li_26, li_29, li_30, li_31, li_32, li_36, li_38, li_48, li_50, li_57, li_58, li_59, li_60, li_63, li_97, li_99, li_120, li_122, li_144, li_168, li_194, li_240, li_255, li_284, li_299, li_603, li_999, li_1200, li_1440, li_4095, li_4096, li_6030, li_16384, li_20160, r_cM_gi S9, nI_leI]
          rw [if_pos (Nat.le_refl 1)]
          split <;> rfl
        have el := endA_le hD hR hg
        have had := hR.hn g hg
        by_cases c4 : rsn T (T 399) g p (nI (endA T (T 399) g (T 399 0))) = 0
        · refine qg_mk (k := 0) (v := nI 1) I (by decide) (cq_val ?_) (fun h1 I1 => ?_)
          · simp (maxSteps := 3000000) (disch := first | assumption | omega | exact hR.all _) only [m_L_steps, m_X11_steps, bO_v, bR_v, bX_l, bX_r, bC_l, bC_r, aJ_v, aLet_v, nI_add, pk_mul, dvI_n, rmI_n, iMax_n, iMin_n, zO_0, zO_1, li_0, li_1, li_2, li_3, li_4, li_5, li_6, li_7, li_8, li_9, li_10, li_12, li_14, li_15, li_16, li_18, li_19, li_20, li_22, li_23, li_24, li_26, li_29, li_30, li_31, li_32, li_36, li_38, li_48, li_50, li_57, li_58, li_59, li_60, li_63, li_97, li_99, li_120, li_122, li_144, li_168, li_194, li_240, li_255, li_284, li_299, li_603, li_999, li_1200, li_1440, li_4095, li_4096, li_6030, li_16384, li_20160, c_cX_gS hS, c_cX_gi hS, c_pmu hS, c_co_as hS, s_cS_gi hS ha, s_cS_gL hS ha, s_cS_pi hS ha, s_cS_pL hS ha, s_cS_gS hS ha, s_clost_al hS ha, s_clost_as hS ha, s_clost_ln hS ha, s_cout_al hS ha, s_cout_as hS ha, s_cout_ln hS ha, s_cpaid_al hS ha, s_cpaid_as hS ha, s_cpaid_ln hS ha, s_ctrust_al hS ha, s_ctrust_as hS ha, s_ctrust_ln hS ha, s_crot_al hS ha, s_crot_as hS ha, s_crot_ln hS ha, s_chands_al hS ha, s_chands_as hS ha, s_chands_ln hS ha, s_cto_al hS ha, s_cto_as hS ha, s_cto_ln hS ha, s_cends_al hS ha, s_cends_as hS ha, s_cends_ln hS ha, s_cret_al hS ha, s_cret_as hS ha, s_cret_ln hS ha, s_ccrew_al hS ha, s_ccrew_as hS ha, s_ccrew_ln hS ha, s_cL_gi hS ha, s_cL_gL hS ha, s_cL_pi hS ha, s_cL_pL hS ha, s_cL_gS hS ha, s_clcosts_al hS ha, s_clcosts_as hS ha, s_clcosts_ln hS ha, s_clcomers_al hS ha, s_clcomers_as hS ha, s_clcomers_ln hS ha, s_clleavers_al hS ha, s_clleavers_as hS ha, s_clleavers_ln hS ha, s_clengs_al hS ha, s_clengs_as hS ha, s_clengs_ln hS ha, s_cltimes_al hS ha, s_cltimes_as hS ha, s_cltimes_ln hS ha, s_clcrews_al hS ha, s_clcrews_as hS ha, s_clcrews_ln hS ha, s_plost hS ha, s_pout hS ha, s_ppaid hS ha, s_ptrust hS ha, s_prot hS ha, s_phands hS ha, s_pto hS ha, s_pends hS ha, s_pret hS ha, s_pcrew hS ha, s_plog hS ha, s_plcosts hS ha, s_plcomers hS ha, s_plleavers hS ha, s_plengs hS ha, s_pltimes hS ha, s_plcrews hS ha, p_cP_gi hS hP, p_cP_gL hS hP, p_cP_pi hS hP, p_cP_pL hS hP, p_cP_gS hS hP, p_cN_gi hS hP, p_cN_gL hS hP, p_cN_pi hS hP, p_cN_pL hS hP, p_cN_gS hS hP, p_cps_ln hS hP, p_ctr_al hS hP, p_ctr_as hS hP, p_ctr_ln hS hP, p_cgs_ln hS hP, p_ces_ln hS hP, p_cks_ln hS hP, p_cable_al hS hP, p_cable_as hS hP, p_cable_ln hS hP, p_pN hS hP, p_pps hS hP, p_ptr hS hP, p_pgs hS hP, p_pes hS hP, p_pks hS hP, p_pable hS hP, p_ep_al hS hP, p_ep_gi hS hP, p_ep_gL hS hP, p_ep_pi hS hP, p_ep_pL hS hP, p_ep_gS hS hP, p_eg_al hS hP, p_eg_gi hS hP, p_eg_gL hS hP, p_eg_pi hS hP, p_eg_pL hS hP, p_eg_gS hS hP, p_egr_p hS hP, p_egr_al hS hP, p_egr_as hS hP, p_egr_ln hS hP, p_ee_al hS hP, p_ee_gi hS hP, p_ee_gL hS hP, p_ee_pi hS hP, p_ee_pL hS hP, p_ee_gS hS hP, p_ees_p hS hP, p_ees_al hS hP, p_ees_as hS hP, p_ees_ln hS hP, p_eed_p hS hP, p_eed_al hS hP, p_eed_as hS hP, p_eed_ln hS hP, p_ek_al hS hP, p_ek_gi hS hP, p_ek_gL hS hP, p_ek_pi hS hP, p_ek_pL hS hP, p_ek_gS hS hP, p_ekg_p hS hP, p_ekg_al hS hP, p_ekg_as hS hP, p_ekg_ln hS hP, p_eke_p hS hP, p_eke_al hS hP, p_eke_as hS hP, p_eke_ln hS hP, g5, I.g3, b2i_0, I.needPerson, I.needPager, I.needEngine, I.needKind, I.needCall, I.needTwo, c, c2, x.tm, kh, nI_eq, c3, ke, kr, c4]
          · have S1 := I1.sh
            have S0 : Sh (h_si h1 398 0 (nI 0)) := S1.si _ _ _
            have z0 : RefR (h_si h1 398 0 (nI 0)) T := I1.z.rz
            have n19 : ¬ 1 = 9 := by decide
            refine ⟨nI 1, h_si (h_si h1 398 0 (nI 0)) 398 0 (nI 0), ?_, (QF.si (by unfold SQ; omega)).trans (QF.si (by unfold SQ; omega)), rfl, si_at, fun _ => rfl⟩
            simp (maxSteps := 3000000) (disch := first | assumption | omega | exact hR.all _) only [m_X12_steps, bO_v, bR_v, bX_l, bX_r, bC_l, bC_r, aJ_v, aLet_v, nI_add, pk_mul, dvI_n, rmI_n, iMax_n, iMin_n, zO_0, zO_1, li_0, li_1, li_2, li_3, li_4, li_5, li_6, li_7, li_8, li_9, li_10, li_12, li_14, li_15, li_16, li_18, li_19, li_20, li_22, li_23, li_24, li_26, li_29, li_30, li_31, li_32, li_36, li_38, li_48, li_50, li_57, li_58, li_59, li_60, li_63, li_97, li_99, li_120, li_122, li_144, li_168, li_194, li_240, li_255, li_284, li_299, li_603, li_999, li_1200, li_1440, li_4095, li_4096, li_6030, li_16384, li_20160, r_cM_gS S1, r_cM_pi S1, rz_gi S1, r_p399 S1, r_c399_al S1, r_isPerson S1 I1.z hD, r_isPager S1 I1.z hD, r_isKind S1 I1.z hD, r_isCouple S1 I1.z hD, b2i_0, nI_leI, c, c2, r_cM_gS S0, r_holder S0 z0 hD hR hg, nI_eq, c3, r_p399 S0, r_c399_al S0, z0.c399, r_endOf S0 z0 hD hR hg, r_against S0 z0 hD hR hg hp, c4, fu _ S0, n19, r_cM_pi S0, rz_gi S0]
        · obtain ⟨r, h1, e1, q1, q2, q3⟩ : CQ 2 h (m_L_steps 1 (nI g) (nI p) 448 h) 2 0 := cq_exc (by simp (maxSteps := 3000000) (disch := first | assumption | omega | exact hR.all _) only [m_L_steps, m_X11_steps, bO_v, bR_v, bX_l, bX_r, bC_l, bC_r, aJ_v, aLet_v, nI_add, pk_mul, dvI_n, rmI_n, iMax_n, iMin_n, zO_0, zO_1, li_0, li_1, li_2, li_3, li_4, li_5, li_6, li_7, li_8, li_9, li_10, li_12, li_14, li_15, li_16, li_18, li_19, li_20, li_22, li_23, li_24, li_26, li_29, li_30, li_31, li_32, li_36, li_38, li_48, li_50, li_57, li_58, li_59, li_60, li_63, li_97, li_99, li_120, li_122, li_144, li_168, li_194, li_240, li_255, li_284, li_299, li_603, li_999, li_1200, li_1440, li_4095, li_4096, li_6030, li_16384, li_20160, c_cX_gS hS, c_cX_gi hS, c_pmu hS, c_co_as hS, s_cS_gi hS ha, s_cS_gL hS ha, s_cS_pi hS ha, s_cS_pL hS ha, s_cS_gS hS ha, s_clost_al hS ha, s_clost_as hS ha, s_clost_ln hS ha, s_cout_al hS ha, s_cout_as hS ha, s_cout_ln hS ha, s_cpaid_al hS ha, s_cpaid_as hS ha, s_cpaid_ln hS ha, s_ctrust_al hS ha, s_ctrust_as hS ha, s_ctrust_ln hS ha, s_crot_al hS ha, s_crot_as hS ha, s_crot_ln hS ha, s_chands_al hS ha, s_chands_as hS ha, s_chands_ln hS ha, s_cto_al hS ha, s_cto_as hS ha, s_cto_ln hS ha, s_cends_al hS ha, s_cends_as hS ha, s_cends_ln hS ha, s_cret_al hS ha, s_cret_as hS ha, s_cret_ln hS ha, s_ccrew_al hS ha, s_ccrew_as hS ha, s_ccrew_ln hS ha, s_cL_gi hS ha, s_cL_gL hS ha, s_cL_pi hS ha, s_cL_pL hS ha, s_cL_gS hS ha, s_clcosts_al hS ha, s_clcosts_as hS ha, s_clcosts_ln hS ha, s_clcomers_al hS ha, s_clcomers_as hS ha, s_clcomers_ln hS ha, s_clleavers_al hS ha, s_clleavers_as hS ha, s_clleavers_ln hS ha, s_clengs_al hS ha, s_clengs_as hS ha, s_clengs_ln hS ha, s_cltimes_al hS ha, s_cltimes_as hS ha, s_cltimes_ln hS ha, s_clcrews_al hS ha, s_clcrews_as hS ha, s_clcrews_ln hS ha, s_plost hS ha, s_pout hS ha, s_ppaid hS ha, s_ptrust hS ha, s_prot hS ha, s_phands hS ha, s_pto hS ha, s_pends hS ha, s_pret hS ha, s_pcrew hS ha, s_plog hS ha, s_plcosts hS ha, s_plcomers hS ha, s_plleavers hS ha, s_plengs hS ha, s_pltimes hS ha, s_plcrews hS ha, p_cP_gi hS hP, p_cP_gL hS hP, p_cP_pi hS hP, p_cP_pL hS hP, p_cP_gS hS hP, p_cN_gi hS hP, p_cN_gL hS hP, p_cN_pi hS hP, p_cN_pL hS hP, p_cN_gS hS hP, p_cps_ln hS hP, p_ctr_al hS hP, p_ctr_as hS hP, p_ctr_ln hS hP, p_cgs_ln hS hP, p_ces_ln hS hP, p_cks_ln hS hP, p_cable_al hS hP, p_cable_as hS hP, p_cable_ln hS hP, p_pN hS hP, p_pps hS hP, p_ptr hS hP, p_pgs hS hP, p_pes hS hP, p_pks hS hP, p_pable hS hP, p_ep_al hS hP, p_ep_gi hS hP, p_ep_gL hS hP, p_ep_pi hS hP, p_ep_pL hS hP, p_ep_gS hS hP, p_eg_al hS hP, p_eg_gi hS hP, p_eg_gL hS hP, p_eg_pi hS hP, p_eg_pL hS hP, p_eg_gS hS hP, p_egr_p hS hP, p_egr_al hS hP, p_egr_as hS hP, p_egr_ln hS hP, p_ee_al hS hP, p_ee_gi hS hP, p_ee_gL hS hP, p_ee_pi hS hP, p_ee_pL hS hP, p_ee_gS hS hP, p_ees_p hS hP, p_ees_al hS hP, p_ees_as hS hP, p_ees_ln hS hP, p_eed_p hS hP, p_eed_al hS hP, p_eed_as hS hP, p_eed_ln hS hP, p_ek_al hS hP, p_ek_gi hS hP, p_ek_gL hS hP, p_ek_pi hS hP, p_ek_pL hS hP, p_ek_gS hS hP, p_ekg_p hS hP, p_ekg_al hS hP, p_ekg_as hS hP, p_ekg_ln hS hP, p_eke_p hS hP, p_eke_al hS hP, p_eke_as hS hP, p_eke_ln hS hP, g5, I.g3, b2i_0, I.needPerson, I.needPager, I.needEngine, I.needKind, I.needCall, I.needTwo, c, c2, x.tm, kh, nI_eq, c3, ke, kr, c4]) (by decide)
          have I1 := I.go q2
          have S1 := I1.sh
          have I0 : IV (h_si h1 398 0 (nI 0)) T P Q := I1.go (QF.si (by unfold SQ; omega))
          have S0 := I0.sh
          have z0 := I0.z
          refine ⟨2, 0, by decide, r, h1, e1, q1, q3, ?_⟩
          simp (maxSteps := 3000000) (disch := first | assumption | omega | exact hR.all _) only [m_X12_steps, bO_v, bR_v, bX_l, bX_r, bC_l, bC_r, aLet_v, nI_add, pk_mul, dvI_n, rmI_n, iMax_n, iMin_n, zO_0, zO_1, li_0, li_1, li_2, li_3, li_4, li_5, li_6, li_7, li_8, li_9, li_10, li_12, li_14, li_15, li_16, li_18, li_19, li_20, li_22, li_23, li_24, li_26, li_29, li_30, li_31, li_32, li_36, li_38, li_48, li_50, li_57, li_58, li_59, li_60, li_63, li_97, li_99, li_120, li_122, li_144, li_168, li_194, li_240, li_255, li_284, li_299, li_603, li_999, li_1200, li_1440, li_4095, li_4096, li_6030, li_16384, li_20160, r_cM_gS S1, r_isPager S1 I1.z hD, r_isPerson S1 I1.z hD, r_cM_pi S1, rz_gi S1, b2i_0, c, c2, Bool.true_eq_false, nI_leI, aJ_v, r_cM_gS S0, r_holder S0 z0 hD hR hg, nI_eq, c3, r_p399 S0, r_c399_al S0, z0.c399, r_endOf S0 z0 hD hR hg, r_against S0 z0 hD hR hg hp, c4]
          have G0 : h_nx (h_si h1 398 0 (nI 0)) = h_nx h1 ∧ h_sl (h_si h1 398 0 (nI 0)) = h_sl h1 ∧ h_lv (h_si h1 398 0 (nI 0)) = h_lv h1 := ⟨rfl, rfl, rfl⟩
          generalize h_si h1 398 0 (nI 0) = h0 at *
          refine r_stepsO (Z := fun o => OK o _) S0 z0 hD hR hg hp ⟨hR, c4, by omega⟩ (fun h2 S' x2 e2 R2 => ?_)
          have I2 := I0.gar x2 e2 R2.big
          have S2 := I2.sh
          have e99 : (9 : Nat) = 9 := rfl
          have e22 : ¬ nI 2 ≤ nI 0 := by decide
          simp (maxSteps := 3000000) (disch := first | assumption | omega | exact hR.all _) only [bO_v, bR_v, bX_l, bX_r, bC_l, bC_r, aLet_v, nI_add, pk_mul, dvI_n, rmI_n, iMax_n, iMin_n, zO_0, zO_1, li_0, li_1, li_2, li_3, li_4, li_5, li_6, li_7, li_8, li_9, li_10, li_12, li_14, li_15, li_16, li_18, li_19, li_20, li_22, li_23, li_24, li_26, li_29, li_30, li_31, li_32, li_36, li_38, li_48, li_50, li_57, li_58, li_59, li_60, li_63, li_97, li_99, li_120, li_122, li_144, li_168, li_194, li_240, li_255, li_284, li_299, li_603, li_999, li_1200, li_1440, li_4095, li_4096, li_6030, li_16384, li_20160, nI_eq, r_cM_pi S2, rz_gi S2]
          rw [if_pos e99, if_neg e22]
          have I3 : IV (h_si h2 398 0 (nI 2)) (setW T S') P Q := I2.go (QF.si (by unfold SQ; omega))
          have := x2.1.1
          have := x2.1.2.1
          have := q2.2.1
          have := q2.2.2.1
          have el2 : h_lv h2 = h_lv h0 := x2.1.2.2.2.2.2.1
          refine ok_ret ⟨fun q => absurd q (by decide), si_at, ?_, ⟨_, _, _, I3⟩, ?_, ?_⟩
          · show h_lv h2 448 0 = h_lv h1 448 0
            rw [el2, G0.2.2]
          · show h_nx h2 ≤ _
            omega
          · show h_sl h2 ≤ _
            omega
end
