/-! the sets of persons in reach: begins, joins; how many can be manned -/
def JNx (o : Nat) : Prop := o = 460 ∨ o = 461
def jnB (ty : Nat) (K : Nat → Nat) (f : Nat → Bool) (all : Bool) (set N m : Nat) : Bool := (f m && !all) || anyB (fun p => m.testBit p && (set.testBit p && ((K p).testBit ty && f (m ^^^ 2 ^ p)))) N
def rcB (t K : Nat → Nat) (set : Nat) (all : Bool) (N : Nat) : Nat → Nat → Bool
  | 0, m => decide (m = 0)
  | n + 1, m => jnB (t n) K (rcB t K set all N n) all set N m
theorem rcB_t {t K : Nat → Nat} {set N : Nat} (hN : N ≤ 12) (hs : set < 2 ^ N) : ∀ {n m : Nat}, rcB t K set false N n m = true ↔ (Mt t K n m ∧ sub m set)
  | 0, m => by
    constructor
    · intro h
      have e : m = 0 := of_decide_eq_true h
      exact ⟨e, fun p hp => by rw [e, Nat.zero_testBit] at hp; cases hp⟩
    · rintro ⟨h, -⟩
      exact decide_eq_true h
  | n + 1, m => by
    unfold rcB jnB
    rw [Bool.not_false, Bool.and_true, Bool.or_eq_true, anyB_t, rcB_t hN hs]
    constructor
    · rintro (⟨h1, h2⟩ | ⟨p, hp, h⟩)
      · exact ⟨Or.inl h1, h2⟩
      · rw [Bool.and_eq_true, Bool.and_eq_true, Bool.and_eq_true, rcB_t hN hs] at h
        obtain ⟨h1, h2, h3, h4, h5⟩ := h
        refine ⟨Or.inr ⟨p, by omega, h1, h3, h4⟩, fun q hq => ?_⟩
        by_cases e : q = p
        · rw [e]; exact h2
        · exact h5 q (by rw [tb_xn e]; exact hq)
    · rintro ⟨h1 | ⟨p, hp, h2, h3, h4⟩, hsub⟩
      · exact Or.inl ⟨h1, hsub⟩
      · have hps := hsub p h2
        refine Or.inr ⟨p, bit_lt hs hps, ?_⟩
        rw [Bool.and_eq_true, Bool.and_eq_true, Bool.and_eq_true, rcB_t hN hs]
        refine ⟨h2, hps, h3, h4, fun q hq => ?_⟩
        by_cases e : q = p
        · rw [e]; exact hps
        · rw [tb_xn e] at hq; exact hsub q hq
theorem rcB_a {t K : Nat → Nat} {set N : Nat} (hN : N ≤ 12) (hs : set < 2 ^ N) : ∀ {n m : Nat}, rcB t K set true N n m = true ↔ (Me t K n m ∧ sub m set)
  | 0, m => by
    constructor
    · intro h
      have e : m = 0 := of_decide_eq_true h
      exact ⟨e, fun p hp => by rw [e, Nat.zero_testBit] at hp; cases hp⟩
    · rintro ⟨h, -⟩
      exact decide_eq_true h
  | n + 1, m => by
    unfold rcB jnB
    rw [Bool.not_true, Bool.and_false, Bool.false_or, anyB_t]
    constructor
    · rintro ⟨p, hp, h⟩
      rw [Bool.and_eq_true, Bool.and_eq_true, Bool.and_eq_true, rcB_a hN hs] at h
      obtain ⟨h1, h2, h3, h4, h5⟩ := h
      refine ⟨⟨p, by omega, h1, h3, h4⟩, fun q hq => ?_⟩
      by_cases e : q = p
      · rw [e]; exact h2
      · exact h5 q (by rw [tb_xn e]; exact hq)
    · rintro ⟨⟨p, hp, h2, h3, h4⟩, hsub⟩
      have hps := hsub p h2
      refine ⟨p, bit_lt hs hps, ?_⟩
      rw [Bool.and_eq_true, Bool.and_eq_true, Bool.and_eq_true, rcB_a hN hs]
      refine ⟨h2, hps, h3, h4, fun q hq => ?_⟩
      by_cases e : q = p
      · rw [e]; exact hps
      · rw [tb_xn e] at hq; exact hsub q hq
section
variable {h : aH} {T : Nat → Nat → Nat}
theorem r_begins (hS : Sh h) : OK (m_X12_begins_ 412 h) (fun _ h1 => Fr JNx h h1 ∧ ∀ m, m < 4096 → h_iv h1 461 m = b2i (decide (m = 0))) := by
  simp only [m_X12_begins_, aJ_v]
  refine aL1_run (R := fun o => OK o _) (fun n s1 h1 => ∃ i, i ≤ 4096 ∧ n = 4096 - i ∧ s1 = nI i ∧ Fr JNx h h1 ∧ ∀ m, m < i → h_iv h1 461 m = b2i (decide (m = 0))) ⟨0, Nat.zero_le _, rfl, rfl, Fr.rf, fun m hm => absurd hm (Nat.not_lt_zero m)⟩ (by omega) ?_
  rintro rec n s1 h1 ⟨i, hi, rfl, rfl, hF, hv⟩ ih
  have S1 := hF.sh hS
  by_cases hlt : i < 4096
  · have next : ∀ x : Int32, x = b2i (decide (i = 0)) → OK (rec (nI (i + 1)) (h_si h1 461 i x)) (fun _ h1 => Fr JNx h h1 ∧ ∀ m, m < 4096 → h_iv h1 461 m = b2i (decide (m = 0))) := fun x hx => by
      refine ih _ _ _ (by omega) ⟨i + 1, hlt, rfl, rfl, hF.trans (Fr.si (Or.inr rfl)), fun m hm => ?_⟩
      by_cases e : m = i
      · rw [e, si_at, hx]
      · rw [si_ne (by omega)]; exact hv m (by omega)
    have w0 : asz h1 461 (nI i) (nI 0) = some (h_si h1 461 i (nI 0)) := r_c461_as S1 hlt (Or.inl rfl)
    have w1 : asz h1 461 (nI i) (nI 1) = some (h_si h1 461 i (nI 1)) := r_c461_as S1 hlt (Or.inr rfl)
    simp (maxSteps := 3000000) (disch := first | assumption | omega) only [m_X12_begins__L2, bO_v, bR_v, bX_l, bX_r, bC_l, bC_r, aJ_v, aLet_v, nI_add, pk_mul, dvI_n, rmI_n, iMax_n, iMin_n, zO_0, zO_1, li_0, li_1, li_2, li_3, li_4, li_5, li_6, li_7, li_8, li_9, li_10, li_12, li_14, li_15, li_16, li_18, li_19, li_20, li_22, li_23, li_24, li_26, li_29, li_30, li_31, li_32, li_36, li_38, li_48, li_50, li_57, li_58, li_59, li_60, li_63, li_97, li_99, li_120, li_122, li_144, li_168, li_194, li_240, li_255, li_284, li_299, li_603, li_999, li_1200, li_1440, li_4095, li_4096, li_6030, li_16384, li_20160, r_p461 S1, w0, w1, nI_ltI, nI_eq]
    rw [if_pos hlt]
    by_cases c : i = 0
    · rw [if_pos c]
      exact next _ (by rw [b2i_t (decide_eq_true c)])
    · rw [if_neg c]
      exact next _ (by rw [b2i_f (decide_eq_false c)])
  · obtain rfl : i = 4096 := by omega
    simp (maxSteps := 3000000) (disch := first | assumption | omega) only [m_X12_begins__L2, bO_v, bR_v, bX_l, bX_r, bC_l, bC_r, aJ_v, aLet_v, nI_add, pk_mul, dvI_n, rmI_n, iMax_n, iMin_n, zO_0, zO_1, li_0, li_1, li_2, li_3, li_4, li_5, li_6, li_7, li_8, li_9, li_10, li_12, li_14, li_15, li_16, li_18, li_19, li_20, li_22, li_23, li_24, li_26, li_29, li_30, li_31, li_32, li_36, li_38, li_48, li_50, li_57, li_58, li_59, li_60, li_63, li_97, li_99, li_120, li_122, li_144, li_168, li_194, li_240, li_255, li_284, li_299, li_603, li_999, li_1200, li_1440, li_4095, li_4096, li_6030, li_16384, li_20160, nI_ltI]
    rw [if_neg hlt]
    exact ok_ret ⟨hF, hv⟩
theorem r_joinsL40 {h1 : aH} (hS : Sh h1) (z : RefR h1 T) (hD : PlD T) {e k set m : Nat} (he : e < T 412 10) (hkk : k < T 426 e) (hm : m < 4096) (hset : set < 4096) {f : Nat → Bool} (hf : ∀ m', m' < 4096 → h_iv h1 461 m' = b2i (f m')) {b0 : Bool} (h0 : h_iv h1 460 m = b2i b0) {k127 : aH → Option (Unit × aH)} {R : Option (Unit × aH) → Prop}
    (hk : ∀ h2, Fx (fun o j => o = 460 ∧ j = m) h1 h2 → h_iv h2 460 m = b2i (b0 || anyB (fun p => m.testBit p && (set.testBit p && ((Kc T p).testBit (ptyp (T 427 (6 * e + k))) && f (m ^^^ 2 ^ p)))) (T 412 8)) → R (k127 h2)) : R (aL1 (m_X12_joins_L40 412 (nI e) (nI k) (nI set) (nI m) k127) FU (nI 0) h1) := by
  have d0 := hD.nP
  have d1 := hD.nE
  have d2 := hD.pst e he
  refine aL1_run (fun n s1 h2 => ∃ i, i ≤ T 412 8 ∧ n = T 412 8 - i ∧ s1 = nI i ∧ Fx (fun o j => o = 460 ∧ j = m) h1 h2 ∧ h_iv h2 460 m = b2i (b0 || anyB (fun p => m.testBit p && (set.testBit p && ((Kc T p).testBit (ptyp (T 427 (6 * e + k))) && f (m ^^^ 2 ^ p)))) i)) ⟨0, Nat.zero_le _, rfl, rfl, Fx.rf, by rw [h0]; simp [anyB]⟩ (by omega) ?_
  rintro rec n s1 h2 ⟨i, hi, rfl, rfl, hF, hv⟩ ih
  have hS2 := hF.sh hS
  have z2 : RefR h2 T := z.fx hF (fun o j q1 q2 => by unfold rfC at q1; omega)
  by_cases hlt : i < T 412 8
  · have next : ∀ (b : Bool) (y : Int32), y = b2i b → (m.testBit i && (set.testBit i && ((Kc T i).testBit (ptyp (T 427 (6 * e + k))) && f (m ^^^ 2 ^ i)))) = b → R (rec (nI (i + 1)) (h_si h2 460 m (h_iv h2 460 m ||| y))) := fun b y hy hb => by
      refine ih _ _ _ (by omega) ⟨i + 1, hlt, rfl, rfl, hF.trans (Fx.si ⟨rfl, rfl⟩), ?_⟩
      rw [si_at, hv, hy, b2i_or, anyB, hb, Bool.or_assoc]
    have o1 : ∀ b : Bool, (h_iv h2 460 m ||| b2i b = 0 ∨ h_iv h2 460 m ||| b2i b = 1) := fun b => by
      rw [hv, b2i_or]
      cases ((b0 || anyB (fun p => m.testBit p && (set.testBit p && ((Kc T p).testBit (ptyp (T 427 (6 * e + k))) && f (m ^^^ 2 ^ p)))) i) || b)
      · exact Or.inl rfl
      · exact Or.inr rfl
    have w0 : asz h2 460 (nI m) (h_iv h2 460 m ||| nI 0) = some (h_si h2 460 m (h_iv h2 460 m ||| nI 0)) := r_c460_as hS2 hm (o1 false)
    have w1 : asz h2 460 (nI m) (h_iv h2 460 m ||| nI 1) = some (h_si h2 460 m (h_iv h2 460 m ||| nI 1)) := r_c460_as hS2 hm (o1 true)
    have bq : (((nI m >>> (nI i &&& nI 31)) &&& nI 1 = nI 0) ↔ m.testBit i = false) := bit_n (by omega) (by omega)
    have bs : (((nI set >>> (nI i &&& nI 31)) &&& nI 1 = nI 0) ↔ set.testBit i = false) := bit_n (by omega) (by omega)
    have fi := r_fits hS2 (fun o ho k => by rcases ho with rfl | rfl <;> first | exact z2.c427 k | exact z2.c421 k) hD hlt he hkk
    simp (maxSteps := 3000000) (disch := first | assumption | omega) only [m_X12_joins_L40, bO_v, bR_v, bX_l, bX_r, bC_l, bC_r, aJ_v, aLet_v, nI_add, pk_mul, dvI_n, rmI_n, iMax_n, iMin_n, zO_0, zO_1, li_0, li_1, li_2, li_3, li_4, li_5, li_6, li_7, li_8, li_9, li_10, li_12, li_14, li_15, li_16, li_18, li_19, li_20, li_22, li_23, li_24, li_26, li_29, li_30, li_31, li_32, li_36, li_38, li_48, li_50, li_57, li_58, li_59, li_60, li_63, li_97, li_99, li_120, li_122, li_144, li_168, li_194, li_240, li_255, li_284, li_299, li_603, li_999, li_1200, li_1440, li_4095, li_4096, li_6030, li_16384, li_20160, r_cM_gi hS2, r_cM_gS hS2, r_p460 hS2, r_p461 hS2, r_c460_al hS2, z2.f8, nI_ltI, fi, b2i_0, w0, w1]
    rw [if_pos hlt]
    cases c2 : m.testBit i
    · rw [if_pos (bq.mpr c2)]
      exact next false _ rfl (by rw [c2]; rfl)
    · rw [if_neg (fun x => by rw [bq.mp x] at c2; cases c2)]
      cases c3 : set.testBit i
      · rw [if_pos (bs.mpr c3)]
        exact next false _ rfl (by rw [c2, c3]; rfl)
      · rw [if_neg (fun x => by rw [bs.mp x] at c3; cases c3)]
        by_cases c4 : (Kc T i).testBit (ptyp (T 427 (6 * e + k))) = false
        · rw [if_pos c4]
          exact next false _ rfl (by rw [c2, c3, c4]; rfl)
        · rw [if_neg c4]
          have t4 : (Kc T i).testBit (ptyp (T 427 (6 * e + k))) = true := by simpa using c4
          have xl := x_lt c2
          have ex : nI m ^^^ (nI 1 <<< (nI i &&& nI 31)) = nI (m ^^^ 2 ^ i) := by rw [shl1_n (by omega), fb_xorI]
          have hxl : m ^^^ 2 ^ i < 4096 := by omega
          have hv2 : h_iv h2 461 (m ^^^ 2 ^ i) = b2i (f (m ^^^ 2 ^ i)) := by rw [hF.iv (by omega)]; exact hf _ hxl
          simp (maxSteps := 3000000) (disch := first | assumption | omega) only [ex, bO_v, bR_v, bX_l, bX_r, bC_l, bC_r, aJ_v, aLet_v, nI_add, pk_mul, dvI_n, rmI_n, iMax_n, iMin_n, zO_0, zO_1, li_0, li_1, li_2, li_3, li_4, li_5, li_6, li_7, li_8, li_9, li_10, li_12, li_14, li_15, li_16, li_18, li_19, li_20, li_22, li_23, li_24, li_26, li_29, li_30, li_31, li_32, li_36, li_38, li_48, li_50, li_57, li_58, li_59, li_60, li_63, li_97, li_99, li_120, li_122, li_144, li_168, li_194, li_240, li_255, li_284, li_299, li_603, li_999, li_1200, li_1440, li_4095, li_4096, li_6030, li_16384, li_20160, r_c461_al hS2, hv2, b2i_0]
          by_cases c5 : f (m ^^^ 2 ^ i) = false
          · rw [if_pos c5]
            exact next false _ rfl (by rw [c2, c3, t4, c5]; rfl)
          · rw [if_neg c5]
            exact next true _ rfl (by rw [c2, c3, t4, show f (m ^^^ 2 ^ i) = true by simpa using c5]; rfl)
  · obtain rfl : i = T 412 8 := by omega
    simp (maxSteps := 3000000) (disch := first | assumption | omega) only [m_X12_joins_L40, bO_v, bR_v, bX_l, bX_r, bC_l, bC_r, aJ_v, aLet_v, nI_add, pk_mul, dvI_n, rmI_n, iMax_n, iMin_n, zO_0, zO_1, li_0, li_1, li_2, li_3, li_4, li_5, li_6, li_7, li_8, li_9, li_10, li_12, li_14, li_15, li_16, li_18, li_19, li_20, li_22, li_23, li_24, li_26, li_29, li_30, li_31, li_32, li_36, li_38, li_48, li_50, li_57, li_58, li_59, li_60, li_63, li_97, li_99, li_120, li_122, li_144, li_168, li_194, li_240, li_255, li_284, li_299, li_603, li_999, li_1200, li_1440, li_4095, li_4096, li_6030, li_16384, li_20160, r_cM_gi hS2, z2.f8, nI_ltI]
    rw [if_neg hlt]
    exact hk h2 hF hv
theorem r_joins (hS : Sh h) (z : RefR h T) (hD : PlD T) {e k set : Nat} (he : e < T 412 10) (hkk : k < T 426 e) (hset : set < 4096) {f : Nat → Bool} {all : Bool} (hf : ∀ m, m < 4096 → h_iv h 461 m = b2i (f m)) :
    OK (m_X12_joins 412 (nI e) (nI k) (nI set) (b2i all) h) (fun _ h1 => Fr JNx h h1 ∧ ∀ m, m < 4096 → h_iv h1 461 m = b2i (jnB (ptyp (T 427 (6 * e + k))) (Kc T) f all set (T 412 8) m)) := by
  have d0 := hD.nP
  simp only [m_X12_joins]
  refine aJ_gen (R := fun o => OK o _) (fun k133 hk133 => ?_)
  refine aL1_run (R := fun o => OK o _) (fun n s1 h1 => ∃ c, c ≤ 4096 ∧ n = c ∧ s1 = nI c + -nI 1 ∧ Fr (fun o => o = 460) h h1 ∧ ∀ m, c ≤ m → m < 4096 → h_iv h1 460 m = b2i (jnB (ptyp (T 427 (6 * e + k))) (Kc T) f all set (T 412 8) m)) ⟨4096, Nat.le_refl _, rfl, by decide, Fr.rf, fun m q1 q2 => absurd q2 (Nat.not_lt.mpr q1)⟩ (by omega) ?_
  rintro rec n s1 h1 ⟨c, hc, rfl, rfl, hF, hv⟩ ih
  have S1 := hF.sh hS
  have f1 : ∀ m, m < 4096 → h_iv h1 461 m = b2i (f m) := fun m hm => by rw [hF.iv (by omega)]; exact hf m hm
  rcases Nat.eq_zero_or_pos n with rfl | hpos
  · have neg : nI 0 + -nI 1 < nI 0 := by decide
    simp only [m_X12_joins_L5, bO_v, bR_v, bX_l, bX_r, bC_l, bC_r, aLet_v, nI_add, pk_mul, dvI_n, rmI_n, iMax_n, iMin_n, zO_0, zO_1, li_0, li_1, li_2, li_3, li_4, li_5, li_6, li_7, li_8, li_9, li_10, li_12, li_14, li_15, li_16, li_18, li_19, li_20, li_22, li_23, li_24, li_26, li_29, li_30, li_31, li_32, li_36, li_38, li_48, li_50, li_57, li_58, li_59, li_60, li_63, li_97, li_99, li_120, li_122, li_144, li_168, li_194, li_240, li_255, li_284, li_299, li_603, li_999, li_1200, li_1440, li_4095, li_4096, li_6030, li_16384, li_20160]
    rw [if_pos neg, hk133]
    refine aL1_run (R := fun o => OK o _) (fun n s1 h2 => ∃ i, i ≤ 4096 ∧ n = 4096 - i ∧ s1 = nI i ∧ Fr (fun o => o = 461) h1 h2 ∧ (∀ m, m < i → h_iv h2 461 m = b2i (jnB (ptyp (T 427 (6 * e + k))) (Kc T) f all set (T 412 8) m))) ⟨0, Nat.zero_le _, rfl, rfl, Fr.rf, fun m hm => absurd hm (Nat.not_lt_zero m)⟩ (by omega) ?_
    rintro rec2 n s1 h2 ⟨i, hi, rfl, rfl, hF2, hv2⟩ ih2
    have S2 := hF2.sh S1
    by_cases hlt : i < 4096
    · have g : h_iv h2 460 i = b2i (jnB (ptyp (T 427 (6 * e + k))) (Kc T) f all set (T 412 8) i) := by rw [hF2.iv (by omega)]; exact hv i (Nat.zero_le _) hlt
      have w : asz h2 461 (nI i) (b2i (jnB (ptyp (T 427 (6 * e + k))) (Kc T) f all set (T 412 8) i)) = some (h_si h2 461 i (b2i (jnB (ptyp (T 427 (6 * e + k))) (Kc T) f all set (T 412 8) i))) := r_c461_as S2 hlt (by
        cases jnB (ptyp (T 427 (6 * e + k))) (Kc T) f all set (T 412 8) i
        · exact Or.inl rfl
        · exact Or.inr rfl)
      simp (maxSteps := 3000000) (disch := first | assumption | omega) only [m_X12_joins_L136, bO_v, bR_v, bX_l, bX_r, bC_l, bC_r, aJ_v, aLet_v, nI_add, pk_mul, dvI_n, rmI_n, iMax_n, iMin_n, zO_0, zO_1, li_0, li_1, li_2, li_3, li_4, li_5, li_6, li_7, li_8, li_9, li_10, li_12, li_14, li_15, li_16, li_18, li_19, li_20, li_22, li_23, li_24, li_26, li_29, li_30, li_31, li_32, li_36, li_38, li_48, li_50, li_57, li_58, li_59, li_60, li_63, li_97, li_99, li_120, li_122, li_144, li_168, li_194, li_240, li_255, li_284, li_299, li_603, li_999, li_1200, li_1440, li_4095, li_4096, li_6030, li_16384, li_20160, r_p460 S2, r_p461 S2, r_c460_al S2, g, w, nI_ltI]
      rw [if_pos hlt]
      refine ih2 _ _ _ (by omega) ⟨i + 1, hlt, rfl, rfl, hF2.trans (Fr.si rfl), fun m hm => ?_⟩
      by_cases e : m = i
      · rw [e, si_at]
      · rw [si_ne (by omega)]; exact hv2 m (by omega)
    · obtain rfl : i = 4096 := by omega
      simp (maxSteps := 3000000) (disch := first | assumption | omega) only [m_X12_joins_L136, bO_v, bR_v, bX_l, bX_r, bC_l, bC_r, aJ_v, aLet_v, nI_add, pk_mul, dvI_n, rmI_n, iMax_n, iMin_n, zO_0, zO_1, li_0, li_1, li_2, li_3, li_4, li_5, li_6, li_7, li_8, li_9, li_10, li_12, li_14, li_15, li_16, li_18, li_19, li_20, li_22, li_23, li_24, li_26, li_29, li_30, li_31, li_32, li_36, li_38, li_48, li_50, li_57, li_58, li_59, li_60, li_63, li_97, li_99, li_120, li_122, li_144, li_168, li_194, li_240, li_255, li_284, li_299, li_603, li_999, li_1200, li_1440, li_4095, li_4096, li_6030, li_16384, li_20160, nI_ltI]
      rw [if_neg hlt]
      exact ok_ret ⟨(hF.mono (fun o q => Or.inl q)).trans (hF2.mono (fun o q => Or.inr q)), hv2⟩
  · obtain ⟨c, rfl⟩ : ∃ c, n = c + 1 := ⟨n - 1, by omega⟩
    have hc4 : c < 4096 := by omega
    simp (maxSteps := 3000000) (disch := first | assumption | omega) only [m_X12_joins_L5, bO_v, bR_v, bX_l, bX_r, bC_l, bC_r, aLet_v, nI_add, pk_mul, dvI_n, rmI_n, iMax_n, iMin_n, zO_0, zO_1, li_0, li_1, li_2, li_3, li_4, li_5, li_6, li_7, li_8, li_9, li_10, li_12, li_14, li_15, li_16, li_18, li_19, li_20, li_22, li_23, li_24, li_26, li_29, li_30, li_31, li_32, li_36, li_38, li_48, li_50, li_57, li_58, li_59, li_60, li_63, li_97, li_99, li_120, li_122, li_144, li_168, li_194, li_240, li_255, li_284, li_299, li_603, li_999, li_1200, li_1440, li_4095, li_4096, li_6030, li_16384, li_20160, m1_n, r_p460 S1, r_p461 S1, r_c461_al S1, f1 c hc4, b2i_0, nI_ltI]
    rw [if_neg (Nat.not_lt_zero c)]
    refine aJ_gen (R := fun o => OK o _) (fun k36 hk36 => ?_)
    have K : ∀ x : Int32, x = b2i (f c && !all) → OK (k36 x h1) (fun _ h1 => Fr JNx h h1 ∧ ∀ m, m < 4096 → h_iv h1 461 m = b2i (jnB (ptyp (T 427 (6 * e + k))) (Kc T) f all set (T 412 8) m)) := fun x hx => by
      have w : asz h1 460 (nI c) x = some (h_si h1 460 c x) := r_c460_as S1 hc4 (by
        rw [hx]
        cases (f c && !all)
        · exact Or.inl rfl
        · exact Or.inr rfl)
      rw [hk36]
      simp (maxSteps := 3000000) (disch := first | assumption | omega) only [bO_v, bR_v, bX_l, bX_r, bC_l, bC_r, aLet_v, nI_add, pk_mul, dvI_n, rmI_n, iMax_n, iMin_n, zO_0, zO_1, li_0, li_1, li_2, li_3, li_4, li_5, li_6, li_7, li_8, li_9, li_10, li_12, li_14, li_15, li_16, li_18, li_19, li_20, li_22, li_23, li_24, li_26, li_29, li_30, li_31, li_32, li_36, li_38, li_48, li_50, li_57, li_58, li_59, li_60, li_63, li_97, li_99, li_120, li_122, li_144, li_168, li_194, li_240, li_255, li_284, li_299, li_603, li_999, li_1200, li_1440, li_4095, li_4096, li_6030, li_16384, li_20160, w]
      refine aJ_gen (R := fun o => OK o _) (fun k127 hk127 => ?_)
      refine r_joinsL40 (R := fun o => OK o _) (S1.si _ _ _) ((z.fr hF (fun o q1 q2 q3 q4 => by omega)).sc (by unfold rfC; omega)) hD he hkk hc4 hset (f := f) (fun m hm => by rw [si_ne (by omega)]; exact f1 m hm) (b0 := f c && !all) (by rw [si_at, hx]) (fun h2 hF2 hv2 => ?_)
      rw [hk127]
      simp only [bO_v, bR_v, bX_l, bX_r, bC_l, bC_r, aLet_v, nI_add, pk_mul, dvI_n, rmI_n, iMax_n, iMin_n, zO_0, zO_1, li_0, li_1, li_2, li_3, li_4, li_5, li_6, li_7, li_8, li_9, li_10, li_12, li_14, li_15, li_16, li_18, li_19, li_20, li_22, li_23, li_24, li_26, li_29, li_30, li_31, li_32, li_36, li_38, li_48, li_50, li_57, li_58, li_59, li_60, li_63, li_97, li_99, li_120, li_122, li_144, li_168, li_194, li_240, li_255, li_284, li_299, li_603, li_999, li_1200, li_1440, li_4095, li_4096, li_6030, li_16384, li_20160]
      refine ih _ _ _ (Nat.lt_succ_self c) ⟨c, by omega, rfl, rfl, (hF.trans (Fr.si rfl)).trans ⟨hF2.1, hF2.2.1, hF2.2.2.1, hF2.2.2.2.1, hF2.2.2.2.2.1, hF2.2.2.2.2.2.1, fun o ho => funext fun j => hF2.iv (fun q => ho q.1)⟩, fun m q1 q2 => ?_⟩
      by_cases e : m = c
      · rw [e, hv2]; rfl
      · rw [hF2.iv (by omega), si_ne (by omega)]
        exact hv m (by omega) q2
    refine aJ_gen (R := fun o => OK o _) (fun k35 hk35 => ?_)
    by_cases c1 : f c = false
    · rw [if_pos c1, hk35]
      exact K _ (by rw [c1]; rfl)
    · have t1 : f c = true := by simpa using c1
      rw [if_neg c1]
      cases all
      · rw [if_pos rfl]
        exact K _ (by rw [t1]; rfl)
      · rw [if_neg (by decide), hk35]
        exact K _ (by rw [t1]; rfl)
end
