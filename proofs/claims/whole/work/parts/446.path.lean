/-! trust handed along a row of persons -/
/-- who is reached in n steps, each of weight L or more -/
def rb (w : Nat → Nat → Nat) (N L p : Nat) : Nat → Nat → Bool
  | 0, q => decide (q = p)
  | n + 1, q => rb w N L p n q || anyB (fun a => rb w N L p n a && (decide (a ≠ q) && decide (L ≤ w a q))) N
section
variable {w : Nat → Nat → Nat} {N L p : Nat}
theorem rb_mono {m q : Nat} : ∀ {n}, m ≤ n → rb w N L p m q = true → rb w N L p n q = true
  | 0, h, hh => by
    obtain rfl : m = 0 := by omega
    exact hh
  | n + 1, h, hh => by
    by_cases e : m = n + 1
    · rw [← e]; exact hh
    · rw [rb, rb_mono (n := n) (by omega) hh, Bool.true_or]
theorem rb_step {n a q : Nat} (ha : a < N) (h1 : rb w N L p n a = true) (h2 : a ≠ q) (h3 : L ≤ w a q) : rb w N L p (n + 1) q = true := by
  rw [rb, anyB_t.mpr ⟨a, ha, by rw [h1, decide_eq_true h2, decide_eq_true h3]; rfl⟩, Bool.or_true]
theorem rb_inv {n q : Nat} (h : rb w N L p (n + 1) q = true) : rb w N L p n q = true ∨ ∃ a, a < N ∧ rb w N L p n a = true ∧ a ≠ q ∧ L ≤ w a q := by
  rw [rb, Bool.or_eq_true] at h
  rcases h with h | h
  · exact Or.inl h
  · obtain ⟨a, a1, a2⟩ := anyB_t.mp h
    rw [Bool.and_eq_true, Bool.and_eq_true] at a2
    exact Or.inr ⟨a, a1, a2.1, of_decide_eq_true a2.2.1, of_decide_eq_true a2.2.2⟩
theorem rb_low {M n q : Nat} (h : L ≤ M) : rb w N M p n q = true → rb w N L p n q = true := by
  induction n generalizing q with
  | zero => exact fun h => h
  | succ n ih =>
    intro hh
    rcases rb_inv hh with h1 | ⟨a, a1, a2, a3, a4⟩
    · exact rb_mono (Nat.le_succ n) (ih h1)
    · exact rb_step a1 (ih a2) a3 (by omega)
/-- stable once, stable for ever -/
theorem rb_stab {n : Nat} (h : ∀ q, q < N → rb w N L p (n + 1) q = rb w N L p n q) : ∀ m q, q < N → rb w N L p (n + m) q = rb w N L p n q
  | 0, q, _ => rfl
  | m + 1, q, hq => by
    have ih := rb_stab h m
    rw [← h q hq]
    show (rb w N L p (n + m) q || anyB (fun a => rb w N L p (n + m) a && (decide (a ≠ q) && decide (L ≤ w a q))) N) = (rb w N L p n q || anyB (fun a => rb w N L p n a && (decide (a ≠ q) && decide (L ≤ w a q))) N)
    rw [ih q hq, anyB_cong (fun a ha => by rw [ih a ha])]
theorem rb_grow (hp : p < N) : ∀ n, n + 1 ≤ fb_ct (rb w N L p n) N ∨ ∃ k, k < n ∧ ∀ q, q < N → rb w N L p (k + 1) q = rb w N L p k q
  | 0 => Or.inl (fb_ct_pos.mpr ⟨p, hp, decide_eq_true rfl⟩)
  | n + 1 => by
    rcases rb_grow hp n with h | ⟨k, k1, k2⟩
    · have sb : fb_ct (rb w N L p n) N ≤ fb_ct (rb w N L p (n + 1)) N := fb_ct_sub (fun q _ hq => rb_mono (Nat.le_succ n) hq)
      by_cases e : fb_ct (rb w N L p n) N = fb_ct (rb w N L p (n + 1)) N
      · exact Or.inr ⟨n, Nat.lt_succ_self n, fun q hq => (ct_eq (fun k _ hk => rb_mono (Nat.le_succ n) hk) e q hq).symm⟩
      · exact Or.inl (by omega)
    · exact Or.inr ⟨k, by omega, k2⟩
theorem rb_all (hp : p < N) {m q : Nat} (hq : q < N) (h : rb w N L p m q = true) : rb w N L p N q = true := by
  rcases rb_grow (w := w) (L := L) hp N with h1 | ⟨k, k1, k2⟩
  · have := fb_ct_le (rb w N L p N) N
    omega
  · by_cases c : m ≤ N
    · exact rb_mono c h
    · have s := rb_stab k2 (m - k) q hq
      rw [show k + (m - k) = m by omega] at s
      rw [s] at h
      exact rb_mono (by omega) h
end
/-- v is the best a row of persons can do -/
def bst (w : Nat → Nat → Nat) (N p q v : Nat) : Prop := v ≤ 9 ∧ (v = 0 ∨ ∃ n, rb w N v p n q = true) ∧ ∀ L n, 1 ≤ L → L ≤ 9 → rb w N L p n q = true → L ≤ v
def trW (S : Nat → Nat) (a b : Nat) : Nat := S (50 + 12 * a + b)
/-- one round of the class: from row i, place j on -/
def rnd (w : Nat → Nat → Nat) (B0 B : Nat → Nat) (N i j : Nat) : Prop := (∀ q, q < N → B0 q ≤ B q) ∧ ∀ a q, a < N → q < N → (a < i ∨ (a = i ∧ q < j)) → a ≠ q → min (B0 a) (w a q) ≤ B q
/-- nothing in the row is more than can be reached -/
def snd9 (w : Nat → Nat → Nat) (N p : Nat) (B : Nat → Nat) : Prop := ∀ q, q < N → B q ≤ 9 ∧ (B q = 0 ∨ ∃ n, rb w N (B q) p n q = true)
section
variable {h : aH} {a P : Nat} {T : Nat → Nat → Nat} {S : Nat → Nat}
theorem k_bestRow (hS : Sh h) (ha : a ∈ stL) (hP : P ∈ plL) (x : StR h a P T S) (y : PlR h P T) (hD : PlD T) (hR : RwD T S) {p q : Nat} (hp : p < T 412 8) (hq : q < T 412 8) :
    OK (m_X10_bestRow a (nI p) (nI q) h) (fun r h1 => Fr (fun o => o = a + 18) h h1 ∧ ∃ v, r = nI v ∧ bst (trW S) (T 412 8) p q v) := by
  have d0 := hD.nP
  have a1 := st_in a ha
  have p1 := pl_in P hP
  have XS : ∀ {h2 : aH}, Fr (fun o => o = a + 18) h h2 → Sh h2 ∧ StR h2 a P T S ∧ PlR h2 P T := fun {h2} F => ⟨F.sh hS, x.keep (fun o q1 q2 => F.iv (by omega)) (by rw [F.rv]), y.fr F hD (fun o q1 q2 q3 => by omega)⟩
  simp only [m_X10_bestRow, bO_v, bR_v, bX_l, bX_r, bC_l, bC_r, aLet_v, nI_add, pk_mul, dvI_n, rmI_n, iMax_n, iMin_n, zO_0, zO_1, li_0, li_1, li_2, li_3, li_4, li_5, li_6, li_7, li_8, li_9, li_10, li_12, li_14, li_15, li_16, li_18, li_19, li_20, li_22, li_23, li_24, li_26, li_29, li_30, li_31, li_32, li_36, li_38, li_48, li_50, li_57, li_58, li_59, li_60, li_63, li_97, li_99, li_120, li_122, li_144, li_168, li_194, li_240, li_255, li_284, li_299, li_603, li_999, li_1200, li_1440, li_4095, li_4096, li_6030, li_16384, li_20160, zl0, zl1, zl2, zl3, zl4, ze01, ze02, ze03, ze04, ze10, ze12, ze13, ze14, ze20, ze21, ze23, ze24, ze30, ze31, ze32, ze34, ze40, ze41, ze42, ze43, zt0, zt1, zt2, zt3, zt4, zq0, zq1, zq2, zq3, zq4, it_t, it_f, Bool.true_eq_false, Bool.false_eq_true, na5, na4, na1441, na2, na10, sx_IOIA, sx_IOIS, sx_IONS, sx_IAIO, sx_IAIS, sx_IANS, sx_ISIO, sx_ISIA, sx_ISNS, sx_NSIO, sx_NSIA, sx_NSIS, aJ_v]
  -- the first row
  refine aL1_run (R := fun o => OK o _) (fun m s1 h2 => ∃ i, i ≤ T 412 8 ∧ m = T 412 8 - i ∧ s1 = nI i ∧ Fr (fun o => o = a + 18) h h2 ∧ ∀ k, k < i → h_iv h2 (a + 18) k = nI (if k = p then 9 else trW S p k)) ⟨0, Nat.zero_le _, rfl, rfl, Fr.rf, fun k hk => absurd hk (Nat.not_lt_zero k)⟩ (by omega) ?_
  rintro rec m s1 h2 ⟨i, hi, rfl, rfl, F2, v2⟩ ih
  obtain ⟨S2, x2, y2⟩ := XS F2
  have kp2 := k_plan S2 ha hP x2
  by_cases hlt : i < T 412 8
  · have next : ∀ v : Nat, v = (if i = p then 9 else trW S p i) → OK (rec (nI (i + 1)) (h_si h2 (a + 18) i (nI v))) (fun r h1 => Fr (fun o => o = a + 18) h h1 ∧ ∃ v, r = nI v ∧ bst (trW S) (T 412 8) p q v) := fun v hv => by
      refine ih _ _ _ (by omega) ⟨i + 1, hlt, rfl, rfl, F2.trans (Fr.si rfl), fun k hk => ?_⟩
      by_cases c : k = i
      · rw [c, si_at, hv]
      · rw [si_ne (by omega)]; exact v2 k (by omega)
    by_cases c : i = p
    · simp (maxSteps := 3000000) (disch := first | assumption | omega | exact hR.all _) only [m_X10_bestRow_L2, bO_v, bR_v, bX_l, bX_r, bC_l, bC_r, aJ_v, aLet_v, nI_add, pk_mul, dvI_n, rmI_n, iMax_n, iMin_n, zO_0, zO_1, li_0, li_1, li_2, li_3, li_4, li_5, li_6, li_7, li_8, li_9, li_10, li_12, li_14, li_15, li_16, li_18, li_19, li_20, li_22, li_23, li_24, li_26, li_29, li_30, li_31, li_32, li_36, li_38, li_48, li_50, li_57, li_58, li_59, li_60, li_63, li_97, li_99, li_120, li_122, li_144, li_168, li_194, li_240, li_255, li_284, li_299, li_603, li_999, li_1200, li_1440, li_4095, li_4096, li_6030, li_16384, li_20160, zl0, zl1, zl2, zl3, zl4, ze01, ze02, ze03, ze04, ze10, ze12, ze13, ze14, ze20, ze21, ze23, ze24, ze30, ze31, ze32, ze34, ze40, ze41, ze42, ze43, zt0, zt1, zt2, zt3, zt4, zq0, zq1, zq2, zq3, zq4, it_t, it_f, Bool.true_eq_false, Bool.false_eq_true, na5, na4, na1441, na2, na10, sx_IOIA, sx_IOIS, sx_IONS, sx_IAIO, sx_IAIS, sx_IANS, sx_ISIO, sx_ISIA, sx_ISNS, sx_NSIO, sx_NSIA, sx_NSIS, kp2, p_cP_gi S2 hP, y2.nP, nI_ltI, nI_eq, c, s_cS_gi S2 ha, s_cS_gL S2 ha, s_cS_pi S2 ha, s_cS_pL S2 ha, s_cS_gS S2 ha, s_clost_al S2 ha, s_clost_as S2 ha, s_clost_ln S2 ha, s_cout_al S2 ha, s_cout_as S2 ha, s_cout_ln S2 ha, s_cpaid_al S2 ha, s_cpaid_as S2 ha, s_cpaid_ln S2 ha, s_ctrust_al S2 ha, s_ctrust_as S2 ha, s_ctrust_ln S2 ha, s_crot_al S2 ha, s_crot_as S2 ha, s_crot_ln S2 ha, s_chands_al S2 ha, s_chands_as S2 ha, s_chands_ln S2 ha, s_cto_al S2 ha, s_cto_as S2 ha, s_cto_ln S2 ha, s_cends_al S2 ha, s_cends_as S2 ha, s_cends_ln S2 ha, s_cret_al S2 ha, s_cret_as S2 ha, s_cret_ln S2 ha, s_ccrew_al S2 ha, s_ccrew_as S2 ha, s_ccrew_ln S2 ha, s_cL_gi S2 ha, s_cL_gL S2 ha, s_cL_pi S2 ha, s_cL_pL S2 ha, s_cL_gS S2 ha, s_clcosts_al S2 ha, s_clcosts_as S2 ha, s_clcosts_ln S2 ha, s_clcomers_al S2 ha, s_clcomers_as S2 ha, s_clcomers_ln S2 ha, s_clleavers_al S2 ha, s_clleavers_as S2 ha, s_clleavers_ln S2 ha, s_clengs_al S2 ha, s_clengs_as S2 ha, s_clengs_ln S2 ha, s_cltimes_al S2 ha, s_cltimes_as S2 ha, s_cltimes_ln S2 ha, s_clcrews_al S2 ha, s_clcrews_as S2 ha, s_clcrews_ln S2 ha, s_cbest_al S2 ha, s_cbest_as S2 ha, s_cbest_ln S2 ha, s_plost S2 ha, s_pout S2 ha, s_ppaid S2 ha, s_ptrust S2 ha, s_prot S2 ha, s_phands S2 ha, s_pto S2 ha, s_pends S2 ha, s_pret S2 ha, s_pcrew S2 ha, s_plog S2 ha, s_plcosts S2 ha, s_plcomers S2 ha, s_plleavers S2 ha, s_plengs S2 ha, s_pltimes S2 ha, s_plcrews S2 ha, s_pbest S2 ha]
      rw [if_pos hp]
      rw [c] at next
      exact next 9 (by rw [if_pos rfl])
    · simp (maxSteps := 3000000) (disch := first | assumption | omega | exact hR.all _) only [m_X10_bestRow_L2, bO_v, bR_v, bX_l, bX_r, bC_l, bC_r, aJ_v, aLet_v, nI_add, pk_mul, dvI_n, rmI_n, iMax_n, iMin_n, zO_0, zO_1, li_0, li_1, li_2, li_3, li_4, li_5, li_6, li_7, li_8, li_9, li_10, li_12, li_14, li_15, li_16, li_18, li_19, li_20, li_22, li_23, li_24, li_26, li_29, li_30, li_31, li_32, li_36, li_38, li_48, li_50, li_57, li_58, li_59, li_60, li_63, li_97, li_99, li_120, li_122, li_144, li_168, li_194, li_240, li_255, li_284, li_299, li_603, li_999, li_1200, li_1440, li_4095, li_4096, li_6030, li_16384, li_20160, zl0, zl1, zl2, zl3, zl4, ze01, ze02, ze03, ze04, ze10, ze12, ze13, ze14, ze20, ze21, ze23, ze24, ze30, ze31, ze32, ze34, ze40, ze41, ze42, ze43, zt0, zt1, zt2, zt3, zt4, zq0, zq1, zq2, zq3, zq4, it_t, it_f, Bool.true_eq_false, Bool.false_eq_true, na5, na4, na1441, na2, na10, sx_IOIA, sx_IOIS, sx_IONS, sx_IAIO, sx_IAIS, sx_IANS, sx_ISIO, sx_ISIA, sx_ISNS, sx_NSIO, sx_NSIA, sx_NSIS, kp2, p_cP_gi S2 hP, y2.nP, nI_ltI, nI_eq, if_neg (fun e : i = p => c e), k_pair, s_cS_gi S2 ha, s_cS_gL S2 ha, s_cS_pi S2 ha, s_cS_pL S2 ha, s_cS_gS S2 ha, s_clost_al S2 ha, s_clost_as S2 ha, s_clost_ln S2 ha, s_cout_al S2 ha, s_cout_as S2 ha, s_cout_ln S2 ha, s_cpaid_al S2 ha, s_cpaid_as S2 ha, s_cpaid_ln S2 ha, s_ctrust_al S2 ha, s_ctrust_as S2 ha, s_ctrust_ln S2 ha, s_crot_al S2 ha, s_crot_as S2 ha, s_crot_ln S2 ha, s_chands_al S2 ha, s_chands_as S2 ha, s_chands_ln S2 ha, s_cto_al S2 ha, s_cto_as S2 ha, s_cto_ln S2 ha, s_cends_al S2 ha, s_cends_as S2 ha, s_cends_ln S2 ha, s_cret_al S2 ha, s_cret_as S2 ha, s_cret_ln S2 ha, s_ccrew_al S2 ha, s_ccrew_as S2 ha, s_ccrew_ln S2 ha, s_cL_gi S2 ha, s_cL_gL S2 ha, s_cL_pi S2 ha, s_cL_pL S2 ha, s_cL_gS S2 ha, s_clcosts_al S2 ha, s_clcosts_as S2 ha, s_clcosts_ln S2 ha, s_clcomers_al S2 ha, s_clcomers_as S2 ha, s_clcomers_ln S2 ha, s_clleavers_al S2 ha, s_clleavers_as S2 ha, s_clleavers_ln S2 ha, s_clengs_al S2 ha, s_clengs_as S2 ha, s_clengs_ln S2 ha, s_cltimes_al S2 ha, s_cltimes_as S2 ha, s_cltimes_ln S2 ha, s_clcrews_al S2 ha, s_clcrews_as S2 ha, s_clcrews_ln S2 ha, s_cbest_al S2 ha, s_cbest_as S2 ha, s_cbest_ln S2 ha, s_plost S2 ha, s_pout S2 ha, s_ppaid S2 ha, s_ptrust S2 ha, s_prot S2 ha, s_phands S2 ha, s_pto S2 ha, s_pends S2 ha, s_pret S2 ha, s_pcrew S2 ha, s_plog S2 ha, s_plcosts S2 ha, s_plcomers S2 ha, s_plleavers S2 ha, s_plengs S2 ha, s_pltimes S2 ha, s_plcrews S2 ha, s_pbest S2 ha, x2.tr p hp i hlt]
      rw [if_pos hlt]
      exact next _ (by rw [if_neg c]; rfl)
  · obtain rfl : i = T 412 8 := by omega
    simp (maxSteps := 3000000) (disch := first | assumption | omega | exact hR.all _) only [m_X10_bestRow_L2, bO_v, bR_v, bX_l, bX_r, bC_l, bC_r, aLet_v, nI_add, pk_mul, dvI_n, rmI_n, iMax_n, iMin_n, zO_0, zO_1, li_0, li_1, li_2, li_3, li_4, li_5, li_6, li_7, li_8, li_9, li_10, li_12, li_14, li_15, li_16, li_18, li_19, li_20, li_22, li_23, li_24, li_26, li_29, li_30, li_31, li_32, li_36, li_38, li_48, li_50, li_57, li_58, li_59, li_60, li_63, li_97, li_99, li_120, li_122, li_144, li_168, li_194, li_240, li_255, li_284, li_299, li_603, li_999, li_1200, li_1440, li_4095, li_4096, li_6030, li_16384, li_20160, zl0, zl1, zl2, zl3, zl4, ze01, ze02, ze03, ze04, ze10, ze12, ze13, ze14, ze20, ze21, ze23, ze24, ze30, ze31, ze32, ze34, ze40, ze41, ze42, ze43, zt0, zt1, zt2, zt3, zt4, zq0, zq1, zq2, zq3, zq4, it_t, it_f, Bool.true_eq_false, Bool.false_eq_true, na5, na4, na1441, na2, na10, sx_IOIA, sx_IOIS, sx_IONS, sx_IAIO, sx_IAIS, sx_IANS, sx_ISIO, sx_ISIA, sx_ISNS, sx_NSIO, sx_NSIA, sx_NSIS, kp2, p_cP_gi S2 hP, y2.nP, nI_ltI]
    rw [if_neg hlt]
    clear ih rec
    -- the rounds
    have w9 : ∀ a b, a < T 412 8 → b < T 412 8 → trW S a b ≤ 9 := fun a b h1 h2 => hR.tr a h1 b h2
    refine aL1_run (R := fun o => OK o _) (fun m s1 h3 => ∃ i B, i ≤ T 412 8 ∧ m = T 412 8 - i ∧ s1 = nI i ∧ Fr (fun o => o = a + 18) h h3 ∧ (∀ k, k < T 412 8 → h_iv h3 (a + 18) k = nI (B k)) ∧ snd9 (trW S) (T 412 8) p B ∧ ∀ L k, 1 ≤ L → L ≤ 9 → k < T 412 8 → rb (trW S) (T 412 8) L p (i + 1) k = true → L ≤ B k)
      ⟨0, fun k => if k = p then 9 else trW S p k, Nat.zero_le _, rfl, rfl, F2, v2, fun k hk => ?_, fun L k h1 h2 h3 h4 => ?_⟩ (by omega) ?_
    · show (if k = p then 9 else trW S p k) ≤ 9 ∧ ((if k = p then 9 else trW S p k) = 0 ∨ ∃ n, rb (trW S) (T 412 8) (if k = p then 9 else trW S p k) p n k = true)
      by_cases c : k = p
      · rw [if_pos c]
        exact ⟨Nat.le_refl _, Or.inr ⟨0, decide_eq_true c⟩⟩
      · rw [if_neg c]
        exact ⟨w9 _ _ hp hk, Or.inr ⟨1, rb_step hp (decide_eq_true rfl) (fun e => c e.symm) (Nat.le_refl _)⟩⟩
    · show L ≤ if k = p then 9 else trW S p k
      rcases rb_inv h4 with q1 | ⟨a', q1, q2, q3, q4⟩
      · rw [if_pos (of_decide_eq_true q1)]; exact h2
      · have e := of_decide_eq_true q2
        rw [e] at q3 q4
        rw [if_neg (fun e2 => q3 e2.symm)]; exact q4
    rintro rec m s1 h3 ⟨i, B0, hi, rfl, rfl, F3, v3, sn3, cm3⟩ ih
    obtain ⟨S3, x3, y3⟩ := XS F3
    have kp3 := k_plan S3 ha hP x3
    by_cases hlt : i < T 412 8
    · simp (maxSteps := 3000000) (disch := first | assumption | omega | exact hR.all _) only [m_X10_bestRow_L47, bO_v, bR_v, bX_l, bX_r, bC_l, bC_r, aLet_v, nI_add, pk_mul, dvI_n, rmI_n, iMax_n, iMin_n, zO_0, zO_1, li_0, li_1, li_2, li_3, li_4, li_5, li_6, li_7, li_8, li_9, li_10, li_12, li_14, li_15, li_16, li_18, li_19, li_20, li_22, li_23, li_24, li_26, li_29, li_30, li_31, li_32, li_36, li_38, li_48, li_50, li_57, li_58, li_59, li_60, li_63, li_97, li_99, li_120, li_122, li_144, li_168, li_194, li_240, li_255, li_284, li_299, li_603, li_999, li_1200, li_1440, li_4095, li_4096, li_6030, li_16384, li_20160, zl0, zl1, zl2, zl3, zl4, ze01, ze02, ze03, ze04, ze10, ze12, ze13, ze14, ze20, ze21, ze23, ze24, ze30, ze31, ze32, ze34, ze40, ze41, ze42, ze43, zt0, zt1, zt2, zt3, zt4, zq0, zq1, zq2, zq3, zq4, it_t, it_f, Bool.true_eq_false, Bool.false_eq_true, na5, na4, na1441, na2, na10, sx_IOIA, sx_IOIS, sx_IONS, sx_IAIO, sx_IAIS, sx_IANS, sx_ISIO, sx_ISIA, sx_ISNS, sx_NSIO, sx_NSIA, sx_NSIS, kp3, p_cP_gi S3 hP, y3.nP, nI_ltI]
      rw [if_pos hlt]
      refine aJ_gen (R := fun o => OK o _) (fun k154 hk154 => ?_)
      refine aL1_run (R := fun o => OK o _) (fun m s1 h4 => ∃ j B, j ≤ T 412 8 ∧ m = T 412 8 - j ∧ s1 = nI j ∧ Fr (fun o => o = a + 18) h h4 ∧ (∀ k, k < T 412 8 → h_iv h4 (a + 18) k = nI (B k)) ∧ snd9 (trW S) (T 412 8) p B ∧ rnd (trW S) B0 B (T 412 8) j 0)
        ⟨0, B0, Nat.zero_le _, rfl, rfl, F3, v3, sn3, fun k _ => Nat.le_refl _, fun a' k h1 h2 h3 => by omega⟩ (by omega) ?_
      rintro rec2 m s1 h4 ⟨j, B, hj, rfl, rfl, F4, v4, sn4, rn4⟩ ih2
      obtain ⟨S4, x4, y4⟩ := XS F4
      have kp4 := k_plan S4 ha hP x4
      by_cases hj2 : j < T 412 8
      · simp (maxSteps := 3000000) (disch := first | assumption | omega | exact hR.all _) only [m_X10_bestRow_L61, bO_v, bR_v, bX_l, bX_r, bC_l, bC_r, aLet_v, nI_add, pk_mul, dvI_n, rmI_n, iMax_n, iMin_n, zO_0, zO_1, li_0, li_1, li_2, li_3, li_4, li_5, li_6, li_7, li_8, li_9, li_10, li_12, li_14, li_15, li_16, li_18, li_19, li_20, li_22, li_23, li_24, li_26, li_29, li_30, li_31, li_32, li_36, li_38, li_48, li_50, li_57, li_58, li_59, li_60, li_63, li_97, li_99, li_120, li_122, li_144, li_168, li_194, li_240, li_255, li_284, li_299, li_603, li_999, li_1200, li_1440, li_4095, li_4096, li_6030, li_16384, li_20160, zl0, zl1, zl2, zl3, zl4, ze01, ze02, ze03, ze04, ze10, ze12, ze13, ze14, ze20, ze21, ze23, ze24, ze30, ze31, ze32, ze34, ze40, ze41, ze42, ze43, zt0, zt1, zt2, zt3, zt4, zq0, zq1, zq2, zq3, zq4, it_t, it_f, Bool.true_eq_false, Bool.false_eq_true, na5, na4, na1441, na2, na10, sx_IOIA, sx_IOIS, sx_IONS, sx_IAIO, sx_IAIS, sx_IANS, sx_ISIO, sx_ISIA, sx_ISNS, sx_NSIO, sx_NSIA, sx_NSIS, kp4, p_cP_gi S4 hP, y4.nP, nI_ltI]
        rw [if_pos hj2]
        refine aJ_gen (R := fun o => OK o _) (fun k148 hk148 => ?_)
        refine aL1_run (R := fun o => OK o _) (fun m s1 h5 => ∃ t B, t ≤ T 412 8 ∧ m = T 412 8 - t ∧ s1 = nI t ∧ Fr (fun o => o = a + 18) h h5 ∧ (∀ k, k < T 412 8 → h_iv h5 (a + 18) k = nI (B k)) ∧ snd9 (trW S) (T 412 8) p B ∧ rnd (trW S) B0 B (T 412 8) j t)
          ⟨0, B, Nat.zero_le _, rfl, rfl, F4, v4, sn4, rn4⟩ (by omega) ?_
        rintro rec3 m s1 h5 ⟨t, B, ht, rfl, rfl, F5, v5, sn5, rn5⟩ ih3
        obtain ⟨S5, x5, y5⟩ := XS F5
        have kp5 := k_plan S5 ha hP x5
        by_cases ht2 : t < T 412 8
        · have bt := (sn5 t ht2).1
          have bj := (sn5 j hj2).1
          have wt := w9 j t hj2 ht2
          by_cases c : j = t
          · have im : iMax (nI (B t)) (nI 0) = nI (B t) := by rw [iMax_n (by omega) (by omega)]; congr 1; omega
            simp (maxSteps := 3000000) (disch := first | assumption | omega | exact hR.all _) only [m_X10_bestRow_L76, bO_v, bR_v, bX_l, bX_r, bC_l, bC_r, aJ_v, aLet_v, nI_add, pk_mul, dvI_n, rmI_n, iMax_n, iMin_n, zO_0, zO_1, li_0, li_1, li_2, li_3, li_4, li_5, li_6, li_7, li_8, li_9, li_10, li_12, li_14, li_15, li_16, li_18, li_19, li_20, li_22, li_23, li_24, li_26, li_29, li_30, li_31, li_32, li_36, li_38, li_48, li_50, li_57, li_58, li_59, li_60, li_63, li_97, li_99, li_120, li_122, li_144, li_168, li_194, li_240, li_255, li_284, li_299, li_603, li_999, li_1200, li_1440, li_4095, li_4096, li_6030, li_16384, li_20160, zl0, zl1, zl2, zl3, zl4, ze01, ze02, ze03, ze04, ze10, ze12, ze13, ze14, ze20, ze21, ze23, ze24, ze30, ze31, ze32, ze34, ze40, ze41, ze42, ze43, zt0, zt1, zt2, zt3, zt4, zq0, zq1, zq2, zq3, zq4, it_t, it_f, Bool.true_eq_false, Bool.false_eq_true, na5, na4, na1441, na2, na10, sx_IOIA, sx_IOIS, sx_IONS, sx_IAIO, sx_IAIS, sx_IANS, sx_ISIO, sx_ISIA, sx_ISNS, sx_NSIO, sx_NSIA, sx_NSIS, kp5, p_cP_gi S5 hP, y5.nP, nI_ltI, nI_eq, if_pos c, s_cS_gi S5 ha, s_cS_gL S5 ha, s_cS_pi S5 ha, s_cS_pL S5 ha, s_cS_gS S5 ha, s_clost_al S5 ha, s_clost_as S5 ha, s_clost_ln S5 ha, s_cout_al S5 ha, s_cout_as S5 ha, s_cout_ln S5 ha, s_cpaid_al S5 ha, s_cpaid_as S5 ha, s_cpaid_ln S5 ha, s_ctrust_al S5 ha, s_ctrust_as S5 ha, s_ctrust_ln S5 ha, s_crot_al S5 ha, s_crot_as S5 ha, s_crot_ln S5 ha, s_chands_al S5 ha, s_chands_as S5 ha, s_chands_ln S5 ha, s_cto_al S5 ha, s_cto_as S5 ha, s_cto_ln S5 ha, s_cends_al S5 ha, s_cends_as S5 ha, s_cends_ln S5 ha, s_cret_al S5 ha, s_cret_as S5 ha, s_cret_ln S5 ha, s_ccrew_al S5 ha, s_ccrew_as S5 ha, s_ccrew_ln S5 ha, s_cL_gi S5 ha, s_cL_gL S5 ha, s_cL_pi S5 ha, s_cL_pL S5 ha, s_cL_gS S5 ha, s_clcosts_al S5 ha, s_clcosts_as S5 ha, s_clcosts_ln S5 ha, s_clcomers_al S5 ha, s_clcomers_as S5 ha, s_clcomers_ln S5 ha, s_clleavers_al S5 ha, s_clleavers_as S5 ha, s_clleavers_ln S5 ha, s_clengs_al S5 ha, s_clengs_as S5 ha, s_clengs_ln S5 ha, s_cltimes_al S5 ha, s_cltimes_as S5 ha, s_cltimes_ln S5 ha, s_clcrews_al S5 ha, s_clcrews_as S5 ha, s_clcrews_ln S5 ha, s_cbest_al S5 ha, s_cbest_as S5 ha, s_cbest_ln S5 ha, s_plost S5 ha, s_pout S5 ha, s_ppaid S5 ha, s_ptrust S5 ha, s_prot S5 ha, s_phands S5 ha, s_pto S5 ha, s_pends S5 ha, s_pret S5 ha, s_pcrew S5 ha, s_plog S5 ha, s_plcosts S5 ha, s_plcomers S5 ha, s_plleavers S5 ha, s_plengs S5 ha, s_pltimes S5 ha, s_plcrews S5 ha, s_pbest S5 ha, v5 t ht2, im]
            rw [if_pos ht2]
            refine ih3 _ _ _ (by omega) ⟨t + 1, B, ht2, rfl, rfl, F5.trans (Fr.si rfl), fun k hk => ?_, sn5, rn5.1, fun a' k h1 h2 h3 h4 => ?_⟩
            · by_cases c2 : k = t
              · rw [c2, si_at]
              · rw [si_ne (by omega)]; exact v5 k hk
            · by_cases c2 : a' = j ∧ k = t
              · exact absurd (c2.1.trans (c.trans c2.2.symm)) h4
              · exact rn5.2 a' k h1 h2 (by omega) h4
          · have e5 := x5.tr j hj2 t ht2
            have im : iMax (nI (B t)) (iMin (nI (B j)) (nI (S (50 + 12 * j + t)))) = nI (max (B t) (min (B j) (trW S j t))) := by
              have wt2 : S (50 + 12 * j + t) ≤ 9 := wt
              rw [iMin_n (by omega) (by omega), iMax_n (by omega) (by omega)]; rfl
            simp (maxSteps := 3000000) (disch := first | assumption | omega) only [m_X10_bestRow_L76, bO_v, bR_v, bX_l, bX_r, bC_l, bC_r, aLet_v, nI_add, pk_mul, dvI_n, rmI_n, iMax_n, iMin_n, zO_0, zO_1, li_0, li_1, li_2, li_3, li_4, li_5, li_6, li_7, li_8, li_9, li_10, li_12, li_14, li_15, li_16, li_18, li_19, li_20, li_22, li_23, li_24, li_26, li_29, li_30, li_31, li_32, li_36, li_38, li_48, li_50, li_57, li_58, li_59, li_60, li_63, li_97, li_99, li_120, li_122, li_144, li_168, li_194, li_240, li_255, li_284, li_299, li_603, li_999, li_1200, li_1440, li_4095, li_4096, li_6030, li_16384, li_20160, zl0, zl1, zl2, zl3, zl4, ze01, ze02, ze03, ze04, ze10, ze12, ze13, ze14, ze20, ze21, ze23, ze24, ze30, ze31, ze32, ze34, ze40, ze41, ze42, ze43, zt0, zt1, zt2, zt3, zt4, zq0, zq1, zq2, zq3, zq4, it_t, it_f, Bool.true_eq_false, Bool.false_eq_true, na5, na4, na1441, na2, na10, sx_IOIA, sx_IOIS, sx_IONS, sx_IAIO, sx_IAIS, sx_IANS, sx_ISIO, sx_ISIA, sx_ISNS, sx_NSIO, sx_NSIA, sx_NSIS, aJ_v, kp5, p_cP_gi S5 hP, y5.nP, nI_ltI, nI_eq, if_neg (fun e : j = t => c e), v5 t ht2, v5 j hj2, k_pair, s_cS_gi S5 ha, s_cS_gL S5 ha, s_cS_pi S5 ha, s_cS_pL S5 ha, s_cS_gS S5 ha, s_clost_al S5 ha, s_clost_as S5 ha, s_clost_ln S5 ha, s_cout_al S5 ha, s_cout_as S5 ha, s_cout_ln S5 ha, s_cpaid_al S5 ha, s_cpaid_as S5 ha, s_cpaid_ln S5 ha, s_ctrust_al S5 ha, s_ctrust_as S5 ha, s_ctrust_ln S5 ha, s_crot_al S5 ha, s_crot_as S5 ha, s_crot_ln S5 ha, s_chands_al S5 ha, s_chands_as S5 ha, s_chands_ln S5 ha, s_cto_al S5 ha, s_cto_as S5 ha, s_cto_ln S5 ha, s_cends_al S5 ha, s_cends_as S5 ha, s_cends_ln S5 ha, s_cret_al S5 ha, s_cret_as S5 ha, s_cret_ln S5 ha, s_ccrew_al S5 ha, s_ccrew_as S5 ha, s_ccrew_ln S5 ha, s_cL_gi S5 ha, s_cL_gL S5 ha, s_cL_pi S5 ha, s_cL_pL S5 ha, s_cL_gS S5 ha, s_clcosts_al S5 ha, s_clcosts_as S5 ha, s_clcosts_ln S5 ha, s_clcomers_al S5 ha, s_clcomers_as S5 ha, s_clcomers_ln S5 ha, s_clleavers_al S5 ha, s_clleavers_as S5 ha, s_clleavers_ln S5 ha, s_clengs_al S5 ha, s_clengs_as S5 ha, s_clengs_ln S5 ha, s_cltimes_al S5 ha, s_cltimes_as S5 ha, s_cltimes_ln S5 ha, s_clcrews_al S5 ha, s_clcrews_as S5 ha, s_clcrews_ln S5 ha, s_cbest_al S5 ha, s_cbest_as S5 ha, s_cbest_ln S5 ha, s_plost S5 ha, s_pout S5 ha, s_ppaid S5 ha, s_ptrust S5 ha, s_prot S5 ha, s_phands S5 ha, s_pto S5 ha, s_pends S5 ha, s_pret S5 ha, s_pcrew S5 ha, s_plog S5 ha, s_plcosts S5 ha, s_plcomers S5 ha, s_plleavers S5 ha, s_plengs S5 ha, s_pltimes S5 ha, s_plcrews S5 ha, s_pbest S5 ha, e5, im]
            rw [if_pos ht2]
            refine ih3 _ _ _ (by omega) ⟨t + 1, fun k => if k = t then max (B t) (min (B j) (trW S j t)) else B k, ht2, rfl, rfl, F5.trans (Fr.si rfl), fun k hk => ?_, fun k hk => ?_, fun k hk => ?_, fun a' k h1 h2 h3 h4 => ?_⟩
            · show _ = nI (if k = t then max (B t) (min (B j) (trW S j t)) else B k)
              by_cases c2 : k = t
              · rw [c2, si_at, if_pos rfl]
              · rw [si_ne (by omega), if_neg c2]; exact v5 k hk
            · show (if k = t then max (B t) (min (B j) (trW S j t)) else B k) ≤ 9 ∧ ((if k = t then max (B t) (min (B j) (trW S j t)) else B k) = 0 ∨ ∃ n, rb (trW S) (T 412 8) (if k = t then max (B t) (min (B j) (trW S j t)) else B k) p n k = true)
              by_cases c2 : k = t
              · rw [if_pos c2, c2]
                refine ⟨by omega, ?_⟩
                by_cases c3 : min (B j) (trW S j t) ≤ B t
                · rw [show max (B t) (min (B j) (trW S j t)) = B t by omega]
                  exact (sn5 t ht2).2
                · rw [show max (B t) (min (B j) (trW S j t)) = min (B j) (trW S j t) by omega]
                  rcases (sn5 j hj2).2 with q0 | ⟨n, qn⟩
                  · omega
                  · exact Or.inr ⟨n + 1, rb_step hj2 (rb_low (by omega) qn) c (by omega)⟩
              · rw [if_neg c2]; exact sn5 k hk
            · show B0 k ≤ if k = t then max (B t) (min (B j) (trW S j t)) else B k
              have := rn5.1 k hk
              by_cases c2 : k = t
              · rw [if_pos c2]; rw [c2] at this ⊢; omega
              · rw [if_neg c2]; exact this
            · show min (B0 a') (trW S a' k) ≤ if k = t then max (B t) (min (B j) (trW S j t)) else B k
              by_cases c2 : a' = j ∧ k = t
              · rw [if_pos c2.2, c2.1, c2.2]
                have := rn5.1 j hj2
                omega
              · have := rn5.2 a' k h1 h2 (by omega) h4
                by_cases c3 : k = t
                · rw [if_pos c3]; rw [c3] at this ⊢; omega
                · rw [if_neg c3]; exact this
        · obtain rfl : t = T 412 8 := by omega
          simp (maxSteps := 3000000) (disch := first | assumption | omega | exact hR.all _) only [m_X10_bestRow_L76, bO_v, bR_v, bX_l, bX_r, bC_l, bC_r, aLet_v, nI_add, pk_mul, dvI_n, rmI_n, iMax_n, iMin_n, zO_0, zO_1, li_0, li_1, li_2, li_3, li_4, li_5, li_6, li_7, li_8, li_9, li_10, li_12, li_14, li_15, li_16, li_18, li_19, li_20, li_22, li_23, li_24, li_26, li_29, li_30, li_31, li_32, li_36, li_38, li_48, li_50, li_57, li_58, li_59, li_60, li_63, li_97, li_99, li_120, li_122, li_144, li_168, li_194, li_240, li_255, li_284, li_299, li_603, li_999, li_1200, li_1440, li_4095, li_4096, li_6030, li_16384, li_20160, zl0, zl1, zl2, zl3, zl4, ze01, ze02, ze03, ze04, ze10, ze12, ze13, ze14, ze20, ze21, ze23, ze24, ze30, ze31, ze32, ze34, ze40, ze41, ze42, ze43, zt0, zt1, zt2, zt3, zt4, zq0, zq1, zq2, zq3, zq4, it_t, it_f, Bool.true_eq_false, Bool.false_eq_true, na5, na4, na1441, na2, na10, sx_IOIA, sx_IOIS, sx_IONS, sx_IAIO, sx_IAIS, sx_IANS, sx_ISIO, sx_ISIA, sx_ISNS, sx_NSIO, sx_NSIA, sx_NSIS, kp5, p_cP_gi S5 hP, y5.nP, nI_ltI, hk148]
          rw [if_neg ht2]
          exact ih2 _ _ _ (by omega) ⟨j + 1, B, hj2, rfl, rfl, F5, v5, sn5, rn5.1, fun a' k h1 h2 h3 h4 => rn5.2 a' k h1 h2 (by omega) h4⟩
      · obtain rfl : j = T 412 8 := by omega
        simp (maxSteps := 3000000) (disch := first | assumption | omega | exact hR.all _) only [m_X10_bestRow_L61, bO_v, bR_v, bX_l, bX_r, bC_l, bC_r, aLet_v, nI_add, pk_mul, dvI_n, rmI_n, iMax_n, iMin_n, zO_0, zO_1, li_0, li_1, li_2, li_3, li_4, li_5, li_6, li_7, li_8, li_9, li_10, li_12, li_14, li_15, li_16, li_18, li_19, li_20, li_22, li_23, li_24, li_26, li_29, li_30, li_31, li_32, li_36, li_38, li_48, li_50, li_57, li_58, li_59, li_60, li_63, li_97, li_99, li_120, li_122, li_144, li_168, li_194, li_240, li_255, li_284, li_299, li_603, li_999, li_1200, li_1440, li_4095, li_4096, li_6030, li_16384, li_20160, zl0, zl1, zl2, zl3, zl4, ze01, ze02, ze03, ze04, ze10, ze12, ze13, ze14, ze20, ze21, ze23, ze24, ze30, ze31, ze32, ze34, ze40, ze41, ze42, ze43, zt0, zt1, zt2, zt3, zt4, zq0, zq1, zq2, zq3, zq4, it_t, it_f, Bool.true_eq_false, Bool.false_eq_true, na5, na4, na1441, na2, na10, sx_IOIA, sx_IOIS, sx_IONS, sx_IAIO, sx_IAIS, sx_IANS, sx_ISIO, sx_ISIA, sx_ISNS, sx_NSIO, sx_NSIA, sx_NSIS, kp4, p_cP_gi S4 hP, y4.nP, nI_ltI, hk154]
        rw [if_neg hj2]
        refine ih _ _ _ (by omega) ⟨i + 1, B, hlt, rfl, rfl, F4, v4, sn4, fun L k h1 h2 h3 h4 => ?_⟩
        rcases rb_inv h4 with q1 | ⟨a', q1, q2, q3, q4⟩
        · have := cm3 L k h1 h2 h3 q1
          have := rn4.1 k h3
          omega
        · have := cm3 L a' h1 h2 q1 q2
          have := rn4.2 a' k q1 h3 (Or.inl q1) q3
          omega
    · obtain rfl : i = T 412 8 := by omega
      simp (maxSteps := 3000000) (disch := first | assumption | omega | exact hR.all _) only [m_X10_bestRow_L47, bO_v, bR_v, bX_l, bX_r, bC_l, bC_r, aJ_v, aLet_v, nI_add, pk_mul, dvI_n, rmI_n, iMax_n, iMin_n, zO_0, zO_1, li_0, li_1, li_2, li_3, li_4, li_5, li_6, li_7, li_8, li_9, li_10, li_12, li_14, li_15, li_16, li_18, li_19, li_20, li_22, li_23, li_24, li_26, li_29, li_30, li_31, li_32, li_36, li_38, li_48, li_50, li_57, li_58, li_59, li_60, li_63, li_97, li_99, li_120, li_122, li_144, li_168, li_194, li_240, li_255, li_284, li_299, li_603, li_999, li_1200, li_1440, li_4095, li_4096, li_6030, li_16384, li_20160, zl0, zl1, zl2, zl3, zl4, ze01, ze02, ze03, ze04, ze10, ze12, ze13, ze14, ze20, ze21, ze23, ze24, ze30, ze31, ze32, ze34, ze40, ze41, ze42, ze43, zt0, zt1, zt2, zt3, zt4, zq0, zq1, zq2, zq3, zq4, it_t, it_f, Bool.true_eq_false, Bool.false_eq_true, na5, na4, na1441, na2, na10, sx_IOIA, sx_IOIS, sx_IONS, sx_IAIO, sx_IAIS, sx_IANS, sx_ISIO, sx_ISIA, sx_ISNS, sx_NSIO, sx_NSIA, sx_NSIS, kp3, p_cP_gi S3 hP, y3.nP, nI_ltI, s_cS_gi S3 ha, s_cS_gL S3 ha, s_cS_pi S3 ha, s_cS_pL S3 ha, s_cS_gS S3 ha, s_clost_al S3 ha, s_clost_as S3 ha, s_clost_ln S3 ha, s_cout_al S3 ha, s_cout_as S3 ha, s_cout_ln S3 ha, s_cpaid_al S3 ha, s_cpaid_as S3 ha, s_cpaid_ln S3 ha, s_ctrust_al S3 ha, s_ctrust_as S3 ha, s_ctrust_ln S3 ha, s_crot_al S3 ha, s_crot_as S3 ha, s_crot_ln S3 ha, s_chands_al S3 ha, s_chands_as S3 ha, s_chands_ln S3 ha, s_cto_al S3 ha, s_cto_as S3 ha, s_cto_ln S3 ha, s_cends_al S3 ha, s_cends_as S3 ha, s_cends_ln S3 ha, s_cret_al S3 ha, s_cret_as S3 ha, s_cret_ln S3 ha, s_ccrew_al S3 ha, s_ccrew_as S3 ha, s_ccrew_ln S3 ha, s_cL_gi S3 ha, s_cL_gL S3 ha, s_cL_pi S3 ha, s_cL_pL S3 ha, s_cL_gS S3 ha, s_clcosts_al S3 ha, s_clcosts_as S3 ha, s_clcosts_ln S3 ha, s_clcomers_al S3 ha, s_clcomers_as S3 ha, s_clcomers_ln S3 ha, s_clleavers_al S3 ha, s_clleavers_as S3 ha, s_clleavers_ln S3 ha, s_clengs_al S3 ha, s_clengs_as S3 ha, s_clengs_ln S3 ha, s_cltimes_al S3 ha, s_cltimes_as S3 ha, s_cltimes_ln S3 ha, s_clcrews_al S3 ha, s_clcrews_as S3 ha, s_clcrews_ln S3 ha, s_cbest_al S3 ha, s_cbest_as S3 ha, s_cbest_ln S3 ha, s_plost S3 ha, s_pout S3 ha, s_ppaid S3 ha, s_ptrust S3 ha, s_prot S3 ha, s_phands S3 ha, s_pto S3 ha, s_pends S3 ha, s_pret S3 ha, s_pcrew S3 ha, s_plog S3 ha, s_plcosts S3 ha, s_plcomers S3 ha, s_plleavers S3 ha, s_plengs S3 ha, s_pltimes S3 ha, s_plcrews S3 ha, s_pbest S3 ha, v3 q hq]
      rw [if_neg hlt]
      refine ok_ret ⟨F3, B0 q, rfl, (sn3 q hq).1, (sn3 q hq).2, fun L n h1 h2 h3 => cm3 L q h1 h2 hq (rb_mono (Nat.le_succ _) (rb_all hp hq h3))⟩
/-- one pass of the reference -/
theorem r_pass (hS : Sh h) (z : RefR h T) (hD : PlD T) {p L n was : Nat} (hL : L ≤ 9) (hw : was < 2 ^ T 412 8) (hb : ∀ q, q < T 412 8 → was.testBit q = rb (trW (T 413)) (T 412 8) L p n q) {k135 : Int32 → aH → Option (Int32 × aH)} {R : Option (Int32 × aH) → Prop}
    (hk : ∀ acc, acc < 2 ^ T 412 8 → (∀ q, q < T 412 8 → acc.testBit q = rb (trW (T 413)) (T 412 8) L p (n + 1) q) → R (k135 (nI acc) h)) : R (aL2 (m_X12_trustPath_L40 412 (nI L) (nI was) k135) FU (nI was) (nI 0) h) := by
  have d0 := hD.nP
  have w12 := two_pow_lt d0 hw
  refine aL2_run (fun m s1 s2 h1 => h1 = h ∧ ∃ i acc, i ≤ T 412 8 ∧ m = T 412 8 - i ∧ s2 = nI i ∧ s1 = nI acc ∧ acc < 2 ^ T 412 8 ∧ ∀ q, q < T 412 8 → acc.testBit q = (rb (trW (T 413)) (T 412 8) L p n q || anyB (fun a => rb (trW (T 413)) (T 412 8) L p n a && (decide (a ≠ q) && decide (L ≤ trW (T 413) a q))) i)) ⟨rfl, 0, was, Nat.zero_le _, rfl, rfl, rfl, hw, fun q hq => by rw [hb q hq, anyB, Bool.or_false]⟩ (by omega) ?_
  rintro rec m s1 s2 h1 ⟨rfl, i, acc, hi, rfl, rfl, rfl, ha, hv⟩ ih
  by_cases hlt : i < T 412 8
  · simp (maxSteps := 3000000) (disch := first | assumption | omega) only [m_X12_trustPath_L40, bO_v, bR_v, bX_l, bX_r, bC_l, bC_r, aLet_v, nI_add, pk_mul, dvI_n, rmI_n, iMax_n, iMin_n, zO_0, zO_1, li_0, li_1, li_2, li_3, li_4, li_5, li_6, li_7, li_8, li_9, li_10, li_12, li_14, li_15, li_16, li_18, li_19, li_20, li_22, li_23, li_24, li_26, li_29, li_30, li_31, li_32, li_36, li_38, li_48, li_50, li_57, li_58, li_59, li_60, li_63, li_97, li_99, li_120, li_122, li_144, li_168, li_194, li_240, li_255, li_284, li_299, li_603, li_999, li_1200, li_1440, li_4095, li_4096, li_6030, li_16384, li_20160, zl0, zl1, zl2, zl3, zl4, ze01, ze02, ze03, ze04, ze10, ze12, ze13, ze14, ze20, ze21, ze23, ze24, ze30, ze31, ze32, ze34, ze40, ze41, ze42, ze43, zt0, zt1, zt2, zt3, zt4, zq0, zq1, zq2, zq3, zq4, it_t, it_f, Bool.true_eq_false, Bool.false_eq_true, na5, na4, na1441, na2, na10, sx_IOIA, sx_IOIS, sx_IONS, sx_IAIO, sx_IAIS, sx_IANS, sx_ISIO, sx_ISIA, sx_ISNS, sx_NSIO, sx_NSIA, sx_NSIS, r_cM_gi hS, z.f8, nI_ltI]
    rw [if_pos hlt]
    refine aJ_gen (fun k129 hk129 => ?_)
    refine aL2_run (fun m s1 s2 h2 => h2 = h1 ∧ ∃ j acc, j ≤ T 412 8 ∧ m = T 412 8 - j ∧ s2 = nI j ∧ s1 = nI acc ∧ acc < 2 ^ T 412 8 ∧ ∀ q, q < T 412 8 → acc.testBit q = (rb (trW (T 413)) (T 412 8) L p n q || anyB (fun a => rb (trW (T 413)) (T 412 8) L p n a && (decide (a ≠ q) && decide (L ≤ trW (T 413) a q))) (if q < j then i + 1 else i))) ⟨rfl, 0, acc, Nat.zero_le _, rfl, rfl, rfl, ha, fun q hq => by rw [if_neg (Nat.not_lt_zero q)]; exact hv q hq⟩ (by omega) ?_
    rintro rec2 m s1 s2 h2 ⟨rfl, j, acc, hj, rfl, rfl, rfl, ha, hv⟩ ih2
    have a12 := two_pow_lt d0 ha
    by_cases hj2 : j < T 412 8
    · have bq : (((nI was >>> (nI i &&& nI 31)) &&& nI 1 = nI 0) ↔ was.testBit i = false) := bit_n (by omega) (by omega)
      have sh := shl1_n (j := j) (by omega)
      have acc0 : nI acc ||| nI 0 = nI acc := (fa_or _ _).trans (by rw [Nat.or_zero])
      have acc1 : nI acc ||| nI (2 ^ j) = nI (acc ||| 2 ^ j) := fa_or _ _
      have b1 := z.2 413 (50 + 12 * i + j)
      have skip : (rb (trW (T 413)) (T 412 8) L p n i && (decide (i ≠ j) && decide (L ≤ trW (T 413) i j))) = false → R (rec2 (nI acc) (nI (j + 1)) h2) := fun hf => by
        refine ih2 _ _ _ _ (by omega) ⟨rfl, j + 1, acc, hj2, rfl, rfl, rfl, ha, fun q hq => ?_⟩
        rw [hv q hq]
        by_cases c : q = j
        · rw [c, if_neg (Nat.lt_irrefl j), if_pos (Nat.lt_succ_self j)]
          show _ = (_ || (anyB _ i || (rb (trW (T 413)) (T 412 8) L p n i && (decide (i ≠ j) && decide (L ≤ trW (T 413) i j)))))
          rw [hf, Bool.or_false]
        · by_cases c2 : q < j
          · rw [if_pos c2, if_pos (by omega)]
          · rw [if_neg c2, if_neg (by omega)]
      simp (maxSteps := 3000000) (disch := first | assumption | omega) only [m_X12_trustPath_L52, bO_v, bR_v, bX_l, bX_r, bC_l, bC_r, aJ_v, aLet_v, nI_add, pk_mul, dvI_n, rmI_n, iMax_n, iMin_n, zO_0, zO_1, li_0, li_1, li_2, li_3, li_4, li_5, li_6, li_7, li_8, li_9, li_10, li_12, li_14, li_15, li_16, li_18, li_19, li_20, li_22, li_23, li_24, li_26, li_29, li_30, li_31, li_32, li_36, li_38, li_48, li_50, li_57, li_58, li_59, li_60, li_63, li_97, li_99, li_120, li_122, li_144, li_168, li_194, li_240, li_255, li_284, li_299, li_603, li_999, li_1200, li_1440, li_4095, li_4096, li_6030, li_16384, li_20160, zl0, zl1, zl2, zl3, zl4, ze01, ze02, ze03, ze04, ze10, ze12, ze13, ze14, ze20, ze21, ze23, ze24, ze30, ze31, ze32, ze34, ze40, ze41, ze42, ze43, zt0, zt1, zt2, zt3, zt4, zq0, zq1, zq2, zq3, zq4, it_t, it_f, Bool.true_eq_false, Bool.false_eq_true, na5, na4, na1441, na2, na10, sx_IOIA, sx_IOIS, sx_IONS, sx_IAIO, sx_IAIS, sx_IANS, sx_ISIO, sx_ISIA, sx_ISNS, sx_NSIO, sx_NSIA, sx_NSIS, r_cM_gi hS, z.f8, nI_ltI, bq, nI_eq, r_p413 hS, r_c413_al hS, z.c413, sh, acc0, acc1]
      rw [if_pos hj2]
      by_cases c1 : was.testBit i = false
      · rw [if_pos c1]
        exact skip (by rw [← hb i hlt, c1]; rfl)
      · rw [if_neg c1]
        by_cases c2 : i = j
        · rw [if_pos c2]
          exact skip (by rw [decide_eq_false (fun q => q c2), Bool.false_and, Bool.and_false])
        · rw [if_neg c2]
          by_cases c3 : T 413 (50 + 12 * i + j) < L
          · rw [if_pos c3]
            exact skip (by rw [decide_eq_false (show ¬ L ≤ trW (T 413) i j from fun q => by unfold trW at q; omega), Bool.and_false, Bool.and_false])
          · rw [if_neg c3]
            have t1 : rb (trW (T 413)) (T 412 8) L p n i = true := by rw [← hb i hlt]; simpa using c1
            have l2 : acc ||| 2 ^ j < 2 ^ T 412 8 := Nat.or_lt_two_pow ha (Nat.pow_lt_pow_right (by decide) hj2)
            refine ih2 _ _ _ _ (by omega) ⟨rfl, j + 1, acc ||| 2 ^ j, hj2, rfl, rfl, rfl, l2, fun q hq => ?_⟩
            rw [Nat.testBit_or, hv q hq, Nat.testBit_two_pow]
            by_cases c : q = j
            · rw [c, if_neg (Nat.lt_irrefl j), if_pos (Nat.lt_succ_self j), decide_eq_true rfl, Bool.or_true]
              show true = (_ || (anyB _ i || (rb (trW (T 413)) (T 412 8) L p n i && (decide (i ≠ j) && decide (L ≤ trW (T 413) i j)))))
              rw [t1, decide_eq_true c2, decide_eq_true (show L ≤ trW (T 413) i j by unfold trW; omega)]
              simp
            · rw [decide_eq_false (fun e => c e.symm), Bool.or_false]
              by_cases c4 : q < j
              · rw [if_pos c4, if_pos (by omega)]
              · rw [if_neg c4, if_neg (by omega)]
    · obtain rfl : j = T 412 8 := by omega
      simp (maxSteps := 3000000) (disch := first | assumption | omega) only [m_X12_trustPath_L52, bO_v, bR_v, bX_l, bX_r, bC_l, bC_r, aLet_v, nI_add, pk_mul, dvI_n, rmI_n, iMax_n, iMin_n, zO_0, zO_1, li_0, li_1, li_2, li_3, li_4, li_5, li_6, li_7, li_8, li_9, li_10, li_12, li_14, li_15, li_16, li_18, li_19, li_20, li_22, li_23, li_24, li_26, li_29, li_30, li_31, li_32, li_36, li_38, li_48, li_50, li_57, li_58, li_59, li_60, li_63, li_97, li_99, li_120, li_122, li_144, li_168, li_194, li_240, li_255, li_284, li_299, li_603, li_999, li_1200, li_1440, li_4095, li_4096, li_6030, li_16384, li_20160, zl0, zl1, zl2, zl3, zl4, ze01, ze02, ze03, ze04, ze10, ze12, ze13, ze14, ze20, ze21, ze23, ze24, ze30, ze31, ze32, ze34, ze40, ze41, ze42, ze43, zt0, zt1, zt2, zt3, zt4, zq0, zq1, zq2, zq3, zq4, it_t, it_f, Bool.true_eq_false, Bool.false_eq_true, na5, na4, na1441, na2, na10, sx_IOIA, sx_IOIS, sx_IONS, sx_IAIO, sx_IAIS, sx_IANS, sx_ISIO, sx_ISIA, sx_ISNS, sx_NSIO, sx_NSIA, sx_NSIS, r_cM_gi hS, z.f8, nI_ltI, hk129]
      rw [if_neg hj2]
      exact ih _ _ _ _ (by omega) ⟨rfl, i + 1, acc, hlt, rfl, rfl, rfl, ha, fun q hq => by rw [hv q hq, if_pos hq]⟩
  · obtain rfl : i = T 412 8 := by omega
    simp (maxSteps := 3000000) (disch := first | assumption | omega) only [m_X12_trustPath_L40, bO_v, bR_v, bX_l, bX_r, bC_l, bC_r, aLet_v, nI_add, pk_mul, dvI_n, rmI_n, iMax_n, iMin_n, zO_0, zO_1, li_0, li_1, li_2, li_3, li_4, li_5, li_6, li_7, li_8, li_9, li_10, li_12, li_14, li_15, li_16, li_18, li_19, li_20, li_22, li_23, li_24, li_26, li_29, li_30, li_31, li_32, li_36, li_38, li_48, li_50, li_57, li_58, li_59, li_60, li_63, li_97, li_99, li_120, li_122, li_144, li_168, li_194, li_240, li_255, li_284, li_299, li_603, li_999, li_1200, li_1440, li_4095, li_4096, li_6030, li_16384, li_20160, zl0, zl1, zl2, zl3, zl4, ze01, ze02, ze03, ze04, ze10, ze12, ze13, ze14, ze20, ze21, ze23, ze24, ze30, ze31, ze32, ze34, ze40, ze41, ze42, ze43, zt0, zt1, zt2, zt3, zt4, zq0, zq1, zq2, zq3, zq4, it_t, it_f, Bool.true_eq_false, Bool.false_eq_true, na5, na4, na1441, na2, na10, sx_IOIA, sx_IOIS, sx_IONS, sx_IAIO, sx_IAIS, sx_IANS, sx_ISIO, sx_ISIA, sx_ISNS, sx_NSIO, sx_NSIA, sx_NSIS, r_cM_gi hS, z.f8, nI_ltI]
    rw [if_neg hlt]
    exact hk acc ha hv
theorem q_trustPath {Q : Nat} (I : IV h T P Q) (p q : Int32) : QQ h T P Q (m_L_trustPath 1 p q 462 h) (m_X12_trustPath 412 p q) := by
  have hS := I.sh
  have hD := I.D
  have hR := I.R
  have hP := I.hP
  have y := I.y
  have d0 := hD.nP
  have d1 := hD.nG
  have d2 := hD.nE
  have d3 := hD.nK
  have d4 := hR.tm
  obtain ⟨a, ha, g5, x, a134⟩ := I.st
  cases c : inr p (T 412 8)
  · refine ⟨1, 0, by decide, cq_exc ?_ (by decide), fun h1 I1 => ?_⟩
    · simp (maxSteps := 3000000) (disch := first | assumption | omega | exact hR.all _) only [m_L_trustPath, m_X11_trustPath, bO_v, bR_v, bX_l, bX_r, bC_l, bC_r, aJ_v, aLet_v, nI_add, pk_mul, dvI_n, rmI_n, iMax_n, iMin_n, zO_0, zO_1, li_0, li_1, li_2, li_3, li_4, li_5, li_6, li_7, li_8, li_9, li_10, li_12, li_14, li_15, li_16, li_18, li_19, li_20, li_22, li_23, li_24, li_26, li_29, li_30, li_31, li_32, li_36, li_38, li_48, li_50, li_57, li_58, li_59, li_60, li_63, li_97, li_99, li_120, li_122, li_144, li_168, li_194, li_240, li_255, li_284, li_299, li_603, li_999, li_1200, li_1440, li_4095, li_4096, li_6030, li_16384, li_20160, zl0, zl1, zl2, zl3, zl4, ze01, ze02, ze03, ze04, ze10, ze12, ze13, ze14, ze20, ze21, ze23, ze24, ze30, ze31, ze32, ze34, ze40, ze41, ze42, ze43, zt0, zt1, zt2, zt3, zt4, zq0, zq1, zq2, zq3, zq4, it_t, it_f, Bool.true_eq_false, Bool.false_eq_true, na5, na4, na1441, na2, na10, sx_IOIA, sx_IOIS, sx_IONS, sx_IAIO, sx_IAIS, sx_IANS, sx_ISIO, sx_ISIA, sx_ISNS, sx_NSIO, sx_NSIA, sx_NSIS, c_cX_gS hS, c_cX_gi hS, c_pmu hS, c_co_as hS, s_cS_gi hS ha, s_cS_gL hS ha, s_cS_pi hS ha, s_cS_pL hS ha, s_cS_gS hS ha, s_clost_al hS ha, s_clost_as hS ha, s_clost_ln hS ha, s_cout_al hS ha, s_cout_as hS ha, s_cout_ln hS ha, s_cpaid_al hS ha, s_cpaid_as hS ha, s_cpaid_ln hS ha, s_ctrust_al hS ha, s_ctrust_as hS ha, s_ctrust_ln hS ha, s_crot_al hS ha, s_crot_as hS ha, s_crot_ln hS ha, s_chands_al hS ha, s_chands_as hS ha, s_chands_ln hS ha, s_cto_al hS ha, s_cto_as hS ha, s_cto_ln hS ha, s_cends_al hS ha, s_cends_as hS ha, s_cends_ln hS ha, s_cret_al hS ha, s_cret_as hS ha, s_cret_ln hS ha, s_ccrew_al hS ha, s_ccrew_as hS ha, s_ccrew_ln hS ha, s_cL_gi hS ha, s_cL_gL hS ha, s_cL_pi hS ha, s_cL_pL hS ha, s_cL_gS hS ha, s_clcosts_al hS ha, s_clcosts_as hS ha, s_clcosts_ln hS ha, s_clcomers_al hS ha, s_clcomers_as hS ha, s_clcomers_ln hS ha, s_clleavers_al hS ha, s_clleavers_as hS ha, s_clleavers_ln hS ha, s_clengs_al hS ha, s_clengs_as hS ha, s_clengs_ln hS ha, s_cltimes_al hS ha, s_cltimes_as hS ha, s_cltimes_ln hS ha, s_clcrews_al hS ha, s_clcrews_as hS ha, s_clcrews_ln hS ha, s_cbest_al hS ha, s_cbest_as hS ha, s_cbest_ln hS ha, s_plost hS ha, s_pout hS ha, s_ppaid hS ha, s_ptrust hS ha, s_prot hS ha, s_phands hS ha, s_pto hS ha, s_pends hS ha, s_pret hS ha, s_pcrew hS ha, s_plog hS ha, s_plcosts hS ha, s_plcomers hS ha, s_plleavers hS ha, s_plengs hS ha, s_pltimes hS ha, s_plcrews hS ha, s_pbest hS ha, p_cP_gi hS hP, p_cP_gL hS hP, p_cP_pi hS hP, p_cP_pL hS hP, p_cP_gS hS hP, p_cN_gi hS hP, p_cN_gL hS hP, p_cN_pi hS hP, p_cN_pL hS hP, p_cN_gS hS hP, p_cps_ln hS hP, p_ctr_al hS hP, p_ctr_as hS hP, p_ctr_ln hS hP, p_cgs_ln hS hP, p_ces_ln hS hP, p_cks_ln hS hP, p_cable_al hS hP, p_cable_as hS hP, p_cable_ln hS hP, p_pN hS hP, p_pps hS hP, p_ptr hS hP, p_pgs hS hP, p_pes hS hP, p_pks hS hP, p_pable hS hP, p_ep_al hS hP, p_ep_gi hS hP, p_ep_gL hS hP, p_ep_pi hS hP, p_ep_pL hS hP, p_ep_gS hS hP, p_eg_al hS hP, p_eg_gi hS hP, p_eg_gL hS hP, p_eg_pi hS hP, p_eg_pL hS hP, p_eg_gS hS hP, p_egr_p hS hP, p_egr_al hS hP, p_egr_as hS hP, p_egr_ln hS hP, p_ee_al hS hP, p_ee_gi hS hP, p_ee_gL hS hP, p_ee_pi hS hP, p_ee_pL hS hP, p_ee_gS hS hP, p_ees_p hS hP, p_ees_al hS hP, p_ees_as hS hP, p_ees_ln hS hP, p_eed_p hS hP, p_eed_al hS hP, p_eed_as hS hP, p_eed_ln hS hP, p_ek_al hS hP, p_ek_gi hS hP, p_ek_gL hS hP, p_ek_pi hS hP, p_ek_pL hS hP, p_ek_gS hS hP, p_ekg_p hS hP, p_ekg_al hS hP, p_ekg_as hS hP, p_ekg_ln hS hP, p_eke_p hS hP, p_eke_al hS hP, p_eke_as hS hP, p_eke_ln hS hP, g5, I.g3, b2i_0, I.needPerson, I.needPager, I.needEngine, I.needKind, I.needCall, I.needTwo, c, Bool.false_eq_true, false_and]
    · have S1 := I1.sh
      refine rq_exc (w := nI 0) ?_ (by decide)
      simp (maxSteps := 3000000) (disch := first | assumption | omega | exact hR.all _) only [m_X12_trustPath, bO_v, bR_v, bX_l, bX_r, bC_l, bC_r, aJ_v, aLet_v, nI_add, pk_mul, dvI_n, rmI_n, iMax_n, iMin_n, zO_0, zO_1, li_0, li_1, li_2, li_3, li_4, li_5, li_6, li_7, li_8, li_9, li_10, li_12, li_14, li_15, li_16, li_18, li_19, li_20, li_22, li_23, li_24, li_26, li_29, li_30, li_31, li_32, li_36, li_38, li_48, li_50, li_57, li_58, li_59, li_60, li_63, li_97, li_99, li_120, li_122, li_144, li_168, li_194, li_240, li_255, li_284, li_299, li_603, li_999, li_1200, li_1440, li_4095, li_4096, li_6030, li_16384, li_20160, zl0, zl1, zl2, zl3, zl4, ze01, ze02, ze03, ze04, ze10, ze12, ze13, ze14, ze20, ze21, ze23, ze24, ze30, ze31, ze32, ze34, ze40, ze41, ze42, ze43, zt0, zt1, zt2, zt3, zt4, zq0, zq1, zq2, zq3, zq4, it_t, it_f, Bool.true_eq_false, Bool.false_eq_true, na5, na4, na1441, na2, na10, sx_IOIA, sx_IOIS, sx_IONS, sx_IAIO, sx_IAIS, sx_IANS, sx_ISIO, sx_ISIA, sx_ISNS, sx_NSIO, sx_NSIA, sx_NSIS, r_cM_gS S1, r_cM_pi S1, rz_gi S1, r_p413 S1, r_c413_al S1, r_isPerson S1 I1.z hD, r_isPager S1 I1.z hD, r_isKind S1 I1.z hD, r_isCouple S1 I1.z hD, b2i_0, nI_leI, c, Bool.false_eq_true, false_and]
  · cases c2 : inr q (T 412 8)
    · refine ⟨1, 0, by decide, cq_exc ?_ (by decide), fun h1 I1 => ?_⟩
      · simp (maxSteps := 3000000) (disch := first | assumption | omega | exact hR.all _) only [m_L_trustPath, m_X11_trustPath, bO_v, bR_v, bX_l, bX_r, bC_l, bC_r, aJ_v, aLet_v, nI_add, pk_mul, dvI_n, rmI_n, iMax_n, iMin_n, zO_0, zO_1, li_0, li_1, li_2, li_3, li_4, li_5, li_6, li_7, li_8, li_9, li_10, li_12, li_14, li_15, li_16, li_18, li_19, li_20, li_22, li_23, li_24, li_26, li_29, li_30, li_31, li_32, li_36, li_38, li_48, li_50, li_57, li_58, li_59, li_60, li_63, li_97, li_99, li_120, li_122, li_144, li_168, li_194, li_240, li_255, li_284, li_299, li_603, li_999, li_1200, li_1440, li_4095, li_4096, li_6030, li_16384, li_20160, zl0, zl1, zl2, zl3, zl4, ze01, ze02, ze03, ze04, ze10, ze12, ze13, ze14, ze20, ze21, ze23, ze24, ze30, ze31, ze32, ze34, ze40, ze41, ze42, ze43, zt0, zt1, zt2, zt3, zt4, zq0, zq1, zq2, zq3, zq4, it_t, it_f, Bool.true_eq_false, Bool.false_eq_true, na5, na4, na1441, na2, na10, sx_IOIA, sx_IOIS, sx_IONS, sx_IAIO, sx_IAIS, sx_IANS, sx_ISIO, sx_ISIA, sx_ISNS, sx_NSIO, sx_NSIA, sx_NSIS, c_cX_gS hS, c_cX_gi hS, c_pmu hS, c_co_as hS, s_cS_gi hS ha, s_cS_gL hS ha, s_cS_pi hS ha, s_cS_pL hS ha, s_cS_gS hS ha, s_clost_al hS ha, s_clost_as hS ha, s_clost_ln hS ha, s_cout_al hS ha, s_cout_as hS ha, s_cout_ln hS ha, s_cpaid_al hS ha, s_cpaid_as hS ha, s_cpaid_ln hS ha, s_ctrust_al hS ha, s_ctrust_as hS ha, s_ctrust_ln hS ha, s_crot_al hS ha, s_crot_as hS ha, s_crot_ln hS ha, s_chands_al hS ha, s_chands_as hS ha, s_chands_ln hS ha, s_cto_al hS ha, s_cto_as hS ha, s_cto_ln hS ha, s_cends_al hS ha, s_cends_as hS ha, s_cends_ln hS ha, s_cret_al hS ha, s_cret_as hS ha, s_cret_ln hS ha, s_ccrew_al hS ha, s_ccrew_as hS ha, s_ccrew_ln hS ha, s_cL_gi hS ha, s_cL_gL hS ha, s_cL_pi hS ha, s_cL_pL hS ha, s_cL_gS hS ha, s_clcosts_al hS ha, s_clcosts_as hS ha, s_clcosts_ln hS ha, s_clcomers_al hS ha, s_clcomers_as hS ha, s_clcomers_ln hS ha, s_clleavers_al hS ha, s_clleavers_as hS ha, s_clleavers_ln hS ha, s_clengs_al hS ha, s_clengs_as hS ha, s_clengs_ln hS ha, s_cltimes_al hS ha, s_cltimes_as hS ha, s_cltimes_ln hS ha, s_clcrews_al hS ha, s_clcrews_as hS ha, s_clcrews_ln hS ha, s_cbest_al hS ha, s_cbest_as hS ha, s_cbest_ln hS ha, s_plost hS ha, s_pout hS ha, s_ppaid hS ha, s_ptrust hS ha, s_prot hS ha, s_phands hS ha, s_pto hS ha, s_pends hS ha, s_pret hS ha, s_pcrew hS ha, s_plog hS ha, s_plcosts hS ha, s_plcomers hS ha, s_plleavers hS ha, s_plengs hS ha, s_pltimes hS ha, s_plcrews hS ha, s_pbest hS ha, p_cP_gi hS hP, p_cP_gL hS hP, p_cP_pi hS hP, p_cP_pL hS hP, p_cP_gS hS hP, p_cN_gi hS hP, p_cN_gL hS hP, p_cN_pi hS hP, p_cN_pL hS hP, p_cN_gS hS hP, p_cps_ln hS hP, p_ctr_al hS hP, p_ctr_as hS hP, p_ctr_ln hS hP, p_cgs_ln hS hP, p_ces_ln hS hP, p_cks_ln hS hP, p_cable_al hS hP, p_cable_as hS hP, p_cable_ln hS hP, p_pN hS hP, p_pps hS hP, p_ptr hS hP, p_pgs hS hP, p_pes hS hP, p_pks hS hP, p_pable hS hP, p_ep_al hS hP, p_ep_gi hS hP, p_ep_gL hS hP, p_ep_pi hS hP, p_ep_pL hS hP, p_ep_gS hS hP, p_eg_al hS hP, p_eg_gi hS hP, p_eg_gL hS hP, p_eg_pi hS hP, p_eg_pL hS hP, p_eg_gS hS hP, p_egr_p hS hP, p_egr_al hS hP, p_egr_as hS hP, p_egr_ln hS hP, p_ee_al hS hP, p_ee_gi hS hP, p_ee_gL hS hP, p_ee_pi hS hP, p_ee_pL hS hP, p_ee_gS hS hP, p_ees_p hS hP, p_ees_al hS hP, p_ees_as hS hP, p_ees_ln hS hP, p_eed_p hS hP, p_eed_al hS hP, p_eed_as hS hP, p_eed_ln hS hP, p_ek_al hS hP, p_ek_gi hS hP, p_ek_gL hS hP, p_ek_pi hS hP, p_ek_pL hS hP, p_ek_gS hS hP, p_ekg_p hS hP, p_ekg_al hS hP, p_ekg_as hS hP, p_ekg_ln hS hP, p_eke_p hS hP, p_eke_al hS hP, p_eke_as hS hP, p_eke_ln hS hP, g5, I.g3, b2i_0, I.needPerson, I.needPager, I.needEngine, I.needKind, I.needCall, I.needTwo, c, c2, Bool.false_eq_true, and_false]
      · have S1 := I1.sh
        refine rq_exc (w := nI 0) ?_ (by decide)
        simp (maxSteps := 3000000) (disch := first | assumption | omega | exact hR.all _) only [m_X12_trustPath, bO_v, bR_v, bX_l, bX_r, bC_l, bC_r, aJ_v, aLet_v, nI_add, pk_mul, dvI_n, rmI_n, iMax_n, iMin_n, zO_0, zO_1, li_0, li_1, li_2, li_3, li_4, li_5, li_6, li_7, li_8, li_9, li_10, li_12, li_14, li_15, li_16, li_18, li_19, li_20, li_22, li_23, li_24, li_26, li_29, li_30, li_31, li_32, li_36, li_38, li_48, li_50, li_57, li_58, li_59, li_60, li_63, li_97, li_99, li_120, li_122, li_144, li_168, li_194, li_240, li_255, li_284, li_299, li_603, li_999, li_1200, li_1440, li_4095, li_4096, li_6030, li_16384, li_20160, zl0, zl1, zl2, zl3, zl4, ze01, ze02, ze03, ze04, ze10, ze12, ze13, ze14, ze20, ze21, ze23, ze24, ze30, ze31, ze32, ze34, ze40, ze41, ze42, ze43, zt0, zt1, zt2, zt3, zt4, zq0, zq1, zq2, zq3, zq4, it_t, it_f, Bool.true_eq_false, Bool.false_eq_true, na5, na4, na1441, na2, na10, sx_IOIA, sx_IOIS, sx_IONS, sx_IAIO, sx_IAIS, sx_IANS, sx_ISIO, sx_ISIA, sx_ISNS, sx_NSIO, sx_NSIA, sx_NSIS, r_cM_gS S1, r_cM_pi S1, rz_gi S1, r_p413 S1, r_c413_al S1, r_isPerson S1 I1.z hD, r_isPager S1 I1.z hD, r_isKind S1 I1.z hD, r_isCouple S1 I1.z hD, b2i_0, nI_leI, c, c2, Bool.false_eq_true, and_false]
    · obtain ⟨p, hp, rfl⟩ := inr_t c (by omega)
      obtain ⟨q, hq, rfl⟩ := inr_t c2 (by omega)
      by_cases c3 : p = q
      · refine ⟨2, 0, by decide, cq_exc ?_ (by decide), fun h1 I1 => ?_⟩
        · simp (maxSteps := 3000000) (disch := first | assumption | omega | exact hR.all _) only [m_L_trustPath, m_X11_trustPath, bO_v, bR_v, bX_l, bX_r, bC_l, bC_r, aJ_v, aLet_v, nI_add, pk_mul, dvI_n, rmI_n, iMax_n, iMin_n, zO_0, zO_1, li_0, li_1, li_2, li_3, li_4, li_5, li_6, li_7, li_8, li_9, li_10, li_12, li_14, li_15, li_16, li_18, li_19, li_20, li_22, li_23, li_24, li_26, li_29, li_30, li_31, li_32, li_36, li_38, li_48, li_50, li_57, li_58, li_59, li_60, li_63, li_97, li_99, li_120, li_122, li_144, li_168, li_194, li_240, li_255, li_284, li_299, li_603, li_999, li_1200, li_1440, li_4095, li_4096, li_6030, li_16384, li_20160, zl0, zl1, zl2, zl3, zl4, ze01, ze02, ze03, ze04, ze10, ze12, ze13, ze14, ze20, ze21, ze23, ze24, ze30, ze31, ze32, ze34, ze40, ze41, ze42, ze43, zt0, zt1, zt2, zt3, zt4, zq0, zq1, zq2, zq3, zq4, it_t, it_f, Bool.true_eq_false, Bool.false_eq_true, na5, na4, na1441, na2, na10, sx_IOIA, sx_IOIS, sx_IONS, sx_IAIO, sx_IAIS, sx_IANS, sx_ISIO, sx_ISIA, sx_ISNS, sx_NSIO, sx_NSIA, sx_NSIS, c_cX_gS hS, c_cX_gi hS, c_pmu hS, c_co_as hS, s_cS_gi hS ha, s_cS_gL hS ha, s_cS_pi hS ha, s_cS_pL hS ha, s_cS_gS hS ha, s_clost_al hS ha, s_clost_as hS ha, s_clost_ln hS ha, s_cout_al hS ha, s_cout_as hS ha, s_cout_ln hS ha, s_cpaid_al hS ha, s_cpaid_as hS ha, s_cpaid_ln hS ha, s_ctrust_al hS ha, s_ctrust_as hS ha, s_ctrust_ln hS ha, s_crot_al hS ha, s_crot_as hS ha, s_crot_ln hS ha, s_chands_al hS ha, s_chands_as hS ha, s_chands_ln hS ha, s_cto_al hS ha, s_cto_as hS ha, s_cto_ln hS ha, s_cends_al hS ha, s_cends_as hS ha, s_cends_ln hS ha, s_cret_al hS ha, s_cret_as hS ha, s_cret_ln hS ha, s_ccrew_al hS ha, s_ccrew_as hS ha, s_ccrew_ln hS ha, s_cL_gi hS ha, s_cL_gL hS ha, s_cL_pi hS ha, s_cL_pL hS ha, s_cL_gS hS ha, s_clcosts_al hS ha, s_clcosts_as hS ha, s_clcosts_ln hS ha, s_clcomers_al hS ha, s_clcomers_as hS ha, s_clcomers_ln hS ha, s_clleavers_al hS ha, s_clleavers_as hS ha, s_clleavers_ln hS ha, s_clengs_al hS ha, s_clengs_as hS ha, s_clengs_ln hS ha, s_cltimes_al hS ha, s_cltimes_as hS ha, s_cltimes_ln hS ha, s_clcrews_al hS ha, s_clcrews_as hS ha, s_clcrews_ln hS ha, s_cbest_al hS ha, s_cbest_as hS ha, s_cbest_ln hS ha, s_plost hS ha, s_pout hS ha, s_ppaid hS ha, s_ptrust hS ha, s_prot hS ha, s_phands hS ha, s_pto hS ha, s_pends hS ha, s_pret hS ha, s_pcrew hS ha, s_plog hS ha, s_plcosts hS ha, s_plcomers hS ha, s_plleavers hS ha, s_plengs hS ha, s_pltimes hS ha, s_plcrews hS ha, s_pbest hS ha, p_cP_gi hS hP, p_cP_gL hS hP, p_cP_pi hS hP, p_cP_pL hS hP, p_cP_gS hS hP, p_cN_gi hS hP, p_cN_gL hS hP, p_cN_pi hS hP, p_cN_pL hS hP, p_cN_gS hS hP, p_cps_ln hS hP, p_ctr_al hS hP, p_ctr_as hS hP, p_ctr_ln hS hP, p_cgs_ln hS hP, p_ces_ln hS hP, p_cks_ln hS hP, p_cable_al hS hP, p_cable_as hS hP, p_cable_ln hS hP, p_pN hS hP, p_pps hS hP, p_ptr hS hP, p_pgs hS hP, p_pes hS hP, p_pks hS hP, p_pable hS hP, p_ep_al hS hP, p_ep_gi hS hP, p_ep_gL hS hP, p_ep_pi hS hP, p_ep_pL hS hP, p_ep_gS hS hP, p_eg_al hS hP, p_eg_gi hS hP, p_eg_gL hS hP, p_eg_pi hS hP, p_eg_pL hS hP, p_eg_gS hS hP, p_egr_p hS hP, p_egr_al hS hP, p_egr_as hS hP, p_egr_ln hS hP, p_ee_al hS hP, p_ee_gi hS hP, p_ee_gL hS hP, p_ee_pi hS hP, p_ee_pL hS hP, p_ee_gS hS hP, p_ees_p hS hP, p_ees_al hS hP, p_ees_as hS hP, p_ees_ln hS hP, p_eed_p hS hP, p_eed_al hS hP, p_eed_as hS hP, p_eed_ln hS hP, p_ek_al hS hP, p_ek_gi hS hP, p_ek_gL hS hP, p_ek_pi hS hP, p_ek_pL hS hP, p_ek_gS hS hP, p_ekg_p hS hP, p_ekg_al hS hP, p_ekg_as hS hP, p_ekg_ln hS hP, p_eke_p hS hP, p_eke_al hS hP, p_eke_as hS hP, p_eke_ln hS hP, g5, I.g3, b2i_0, I.needPerson, I.needPager, I.needEngine, I.needKind, I.needCall, I.needTwo, c, c2, and_true, nI_eq, c3]
        · have S1 := I1.sh
          refine rq_exc (w := nI 0) ?_ (by decide)
          simp (maxSteps := 3000000) (disch := first | assumption | omega | exact hR.all _) only [m_X12_trustPath, bO_v, bR_v, bX_l, bX_r, bC_l, bC_r, aJ_v, aLet_v, nI_add, pk_mul, dvI_n, rmI_n, iMax_n, iMin_n, zO_0, zO_1, li_0, li_1, li_2, li_3, li_4, li_5, li_6, li_7, li_8, li_9, li_10, li_12, li_14, li_15, li_16, li_18, li_19, li_20, li_22, li_23, li_24, li_26, li_29, li_30, li_31, li_32, li_36, li_38, li_48, li_50, li_57, li_58, li_59, li_60, li_63, li_97, li_99, li_120, li_122, li_144, li_168, li_194, li_240, li_255, li_284, li_299, li_603, li_999, li_1200, li_1440, li_4095, li_4096, li_6030, li_16384, li_20160, zl0, zl1, zl2, zl3, zl4, ze01, ze02, ze03, ze04, ze10, ze12, ze13, ze14, ze20, ze21, ze23, ze24, ze30, ze31, ze32, ze34, ze40, ze41, ze42, ze43, zt0, zt1, zt2, zt3, zt4, zq0, zq1, zq2, zq3, zq4, it_t, it_f, Bool.true_eq_false, Bool.false_eq_true, na5, na4, na1441, na2, na10, sx_IOIA, sx_IOIS, sx_IONS, sx_IAIO, sx_IAIS, sx_IANS, sx_ISIO, sx_ISIA, sx_ISNS, sx_NSIO, sx_NSIA, sx_NSIS, r_cM_gS S1, r_cM_pi S1, rz_gi S1, r_p413 S1, r_c413_al S1, r_isPerson S1 I1.z hD, r_isPager S1 I1.z hD, r_isKind S1 I1.z hD, r_isCouple S1 I1.z hD, b2i_0, nI_leI, c, c2, and_true, nI_eq, c3]
      · obtain ⟨r, g1, hrun, hF, v, rfl, hv9, hv0, hvm⟩ := k_bestRow hS ha hP x y hD hR hp hq
        have hQ : QF 0 h g1 := QF.fr hF (fun o e k => by unfold SQ; omega)
        have S9 := hQ.sh hS
        refine ⟨0, nI v, by decide, ?_, fun h1 I1 => ?_⟩
        · refine ⟨nI 0, h_sL g1 462 0 (nI v).toInt64, ?_, rfl, (hQ.trans QF.L).le (by decide), fun _ => sL_at⟩
          simp (maxSteps := 3000000) (disch := first | assumption | omega | exact hR.all _) only [m_L_trustPath, m_X11_trustPath, bO_v, bR_v, bX_l, bX_r, bC_l, bC_r, aJ_v, aLet_v, nI_add, pk_mul, dvI_n, rmI_n, iMax_n, iMin_n, zO_0, zO_1, li_0, li_1, li_2, li_3, li_4, li_5, li_6, li_7, li_8, li_9, li_10, li_12, li_14, li_15, li_16, li_18, li_19, li_20, li_22, li_23, li_24, li_26, li_29, li_30, li_31, li_32, li_36, li_38, li_48, li_50, li_57, li_58, li_59, li_60, li_63, li_97, li_99, li_120, li_122, li_144, li_168, li_194, li_240, li_255, li_284, li_299, li_603, li_999, li_1200, li_1440, li_4095, li_4096, li_6030, li_16384, li_20160, zl0, zl1, zl2, zl3, zl4, ze01, ze02, ze03, ze04, ze10, ze12, ze13, ze14, ze20, ze21, ze23, ze24, ze30, ze31, ze32, ze34, ze40, ze41, ze42, ze43, zt0, zt1, zt2, zt3, zt4, zq0, zq1, zq2, zq3, zq4, it_t, it_f, Bool.true_eq_false, Bool.false_eq_true, na5, na4, na1441, na2, na10, sx_IOIA, sx_IOIS, sx_IONS, sx_IAIO, sx_IAIS, sx_IANS, sx_ISIO, sx_ISIA, sx_ISNS, sx_NSIO, sx_NSIA, sx_NSIS, c_cX_gS hS, c_cX_gi hS, c_pmu hS, c_co_as hS, s_cS_gi hS ha, s_cS_gL hS ha, s_cS_pi hS ha, s_cS_pL hS ha, s_cS_gS hS ha, s_clost_al hS ha, s_clost_as hS ha, s_clost_ln hS ha, s_cout_al hS ha, s_cout_as hS ha, s_cout_ln hS ha, s_cpaid_al hS ha, s_cpaid_as hS ha, s_cpaid_ln hS ha, s_ctrust_al hS ha, s_ctrust_as hS ha, s_ctrust_ln hS ha, s_crot_al hS ha, s_crot_as hS ha, s_crot_ln hS ha, s_chands_al hS ha, s_chands_as hS ha, s_chands_ln hS ha, s_cto_al hS ha, s_cto_as hS ha, s_cto_ln hS ha, s_cends_al hS ha, s_cends_as hS ha, s_cends_ln hS ha, s_cret_al hS ha, s_cret_as hS ha, s_cret_ln hS ha, s_ccrew_al hS ha, s_ccrew_as hS ha, s_ccrew_ln hS ha, s_cL_gi hS ha, s_cL_gL hS ha, s_cL_pi hS ha, s_cL_pL hS ha, s_cL_gS hS ha, s_clcosts_al hS ha, s_clcosts_as hS ha, s_clcosts_ln hS ha, s_clcomers_al hS ha, s_clcomers_as hS ha, s_clcomers_ln hS ha, s_clleavers_al hS ha, s_clleavers_as hS ha, s_clleavers_ln hS ha, s_clengs_al hS ha, s_clengs_as hS ha, s_clengs_ln hS ha, s_cltimes_al hS ha, s_cltimes_as hS ha, s_cltimes_ln hS ha, s_clcrews_al hS ha, s_clcrews_as hS ha, s_clcrews_ln hS ha, s_cbest_al hS ha, s_cbest_as hS ha, s_cbest_ln hS ha, s_plost hS ha, s_pout hS ha, s_ppaid hS ha, s_ptrust hS ha, s_prot hS ha, s_phands hS ha, s_pto hS ha, s_pends hS ha, s_pret hS ha, s_pcrew hS ha, s_plog hS ha, s_plcosts hS ha, s_plcomers hS ha, s_plleavers hS ha, s_plengs hS ha, s_pltimes hS ha, s_plcrews hS ha, s_pbest hS ha, p_cP_gi hS hP, p_cP_gL hS hP, p_cP_pi hS hP, p_cP_pL hS hP, p_cP_gS hS hP, p_cN_gi hS hP, p_cN_gL hS hP, p_cN_pi hS hP, p_cN_pL hS hP, p_cN_gS hS hP, p_cps_ln hS hP, p_ctr_al hS hP, p_ctr_as hS hP, p_ctr_ln hS hP, p_cgs_ln hS hP, p_ces_ln hS hP, p_cks_ln hS hP, p_cable_al hS hP, p_cable_as hS hP, p_cable_ln hS hP, p_pN hS hP, p_pps hS hP, p_ptr hS hP, p_pgs hS hP, p_pes hS hP, p_pks hS hP, p_pable hS hP, p_ep_al hS hP, p_ep_gi hS hP, p_ep_gL hS hP, p_ep_pi hS hP, p_ep_pL hS hP, p_ep_gS hS hP, p_eg_al hS hP, p_eg_gi hS hP, p_eg_gL hS hP, p_eg_pi hS hP, p_eg_pL hS hP, p_eg_gS hS hP, p_egr_p hS hP, p_egr_al hS hP, p_egr_as hS hP, p_egr_ln hS hP, p_ee_al hS hP, p_ee_gi hS hP, p_ee_gL hS hP, p_ee_pi hS hP, p_ee_pL hS hP, p_ee_gS hS hP, p_ees_p hS hP, p_ees_al hS hP, p_ees_as hS hP, p_ees_ln hS hP, p_eed_p hS hP, p_eed_al hS hP, p_eed_as hS hP, p_eed_ln hS hP, p_ek_al hS hP, p_ek_gi hS hP, p_ek_gL hS hP, p_ek_pi hS hP, p_ek_pL hS hP, p_ek_gS hS hP, p_ekg_p hS hP, p_ekg_al hS hP, p_ekg_as hS hP, p_ekg_ln hS hP, p_eke_p hS hP, p_eke_al hS hP, p_eke_as hS hP, p_eke_ln hS hP, g5, I.g3, b2i_0, I.needPerson, I.needPager, I.needEngine, I.needKind, I.needCall, I.needTwo, c, c2, and_true, nI_eq, c3, hrun, c_co_as S9]
        · have S1 := I1.sh
          have S0 : Sh (h_si h1 412 0 (nI 0)) := S1.si _ _ _
          have z0 : RefR (h_si h1 412 0 (nI 0)) T := I1.z.rz
          refine rq_val ?_
          have n1 : ¬ nI 1 = nI 0 := by decide
          simp (maxSteps := 3000000) (disch := first | assumption | omega | exact hR.all _) only [m_X12_trustPath, bO_v, bR_v, bX_l, bX_r, bC_l, bC_r, aLet_v, nI_add, pk_mul, dvI_n, rmI_n, iMax_n, iMin_n, zO_0, zO_1, li_0, li_1, li_2, li_3, li_4, li_5, li_6, li_7, li_8, li_9, li_10, li_12, li_14, li_15, li_16, li_18, li_19, li_20, li_22, li_23, li_24, li_26, li_29, li_30, li_31, li_32, li_36, li_38, li_48, li_50, li_57, li_58, li_59, li_60, li_63, li_97, li_99, li_120, li_122, li_144, li_168, li_194, li_240, li_255, li_284, li_299, li_603, li_999, li_1200, li_1440, li_4095, li_4096, li_6030, li_16384, li_20160, zl0, zl1, zl2, zl3, zl4, ze01, ze02, ze03, ze04, ze10, ze12, ze13, ze14, ze20, ze21, ze23, ze24, ze30, ze31, ze32, ze34, ze40, ze41, ze42, ze43, zt0, zt1, zt2, zt3, zt4, zq0, zq1, zq2, zq3, zq4, it_t, it_f, Bool.true_eq_false, Bool.false_eq_true, na5, na4, na1441, na2, na10, sx_IOIA, sx_IOIS, sx_IONS, sx_IAIO, sx_IAIS, sx_IANS, sx_ISIO, sx_ISIA, sx_ISNS, sx_NSIO, sx_NSIA, sx_NSIS, r_cM_gS S1, r_isCouple S1 I1.z hD, c, c2, and_true, nI_eq, c3, aJ_v]
          refine aL1_run (R := fun o => o = some (nI v, h_si h1 412 0 (nI 0))) (fun m s1 h2 => h2 = h_si h1 412 0 (nI 0) ∧ ∃ L, L ≤ 9 ∧ m = L ∧ s1 = nI L ∧ v ≤ L) ⟨rfl, 9, Nat.le_refl _, rfl, rfl, hv9⟩ (by omega) ?_
          rintro rec m s1 h2 ⟨rfl, L, hL, rfl, rfl, hvL⟩ ih
          by_cases c0 : m = 0
          · have : v = 0 := by omega
            subst c0
            simp (maxSteps := 3000000) (disch := first | assumption | omega | exact hR.all _) only [m_X12_trustPath_L14, bO_v, bR_v, bX_l, bX_r, bC_l, bC_r, aLet_v, nI_add, pk_mul, dvI_n, rmI_n, iMax_n, iMin_n, zO_0, zO_1, li_0, li_1, li_2, li_3, li_4, li_5, li_6, li_7, li_8, li_9, li_10, li_12, li_14, li_15, li_16, li_18, li_19, li_20, li_22, li_23, li_24, li_26, li_29, li_30, li_31, li_32, li_36, li_38, li_48, li_50, li_57, li_58, li_59, li_60, li_63, li_97, li_99, li_120, li_122, li_144, li_168, li_194, li_240, li_255, li_284, li_299, li_603, li_999, li_1200, li_1440, li_4095, li_4096, li_6030, li_16384, li_20160, zl0, zl1, zl2, zl3, zl4, ze01, ze02, ze03, ze04, ze10, ze12, ze13, ze14, ze20, ze21, ze23, ze24, ze30, ze31, ze32, ze34, ze40, ze41, ze42, ze43, zt0, zt1, zt2, zt3, zt4, zq0, zq1, zq2, zq3, zq4, it_t, it_f, Bool.true_eq_false, Bool.false_eq_true, na5, na4, na1441, na2, na10, sx_IOIA, sx_IOIS, sx_IONS, sx_IAIO, sx_IAIS, sx_IANS, sx_ISIO, sx_ISIA, sx_ISNS, sx_NSIO, sx_NSIA, sx_NSIS, nI_leI]
            rw [this]
          · have sh := shl1_n (j := p) (by omega)
            have nl : ¬ m ≤ 0 := by omega
            simp (maxSteps := 3000000) (disch := first | assumption | omega | exact hR.all _) only [m_X12_trustPath_L14, bO_v, bR_v, bX_l, bX_r, bC_l, bC_r, aLet_v, nI_add, pk_mul, dvI_n, rmI_n, iMax_n, iMin_n, zO_0, zO_1, li_0, li_1, li_2, li_3, li_4, li_5, li_6, li_7, li_8, li_9, li_10, li_12, li_14, li_15, li_16, li_18, li_19, li_20, li_22, li_23, li_24, li_26, li_29, li_30, li_31, li_32, li_36, li_38, li_48, li_50, li_57, li_58, li_59, li_60, li_63, li_97, li_99, li_120, li_122, li_144, li_168, li_194, li_240, li_255, li_284, li_299, li_603, li_999, li_1200, li_1440, li_4095, li_4096, li_6030, li_16384, li_20160, zl0, zl1, zl2, zl3, zl4, ze01, ze02, ze03, ze04, ze10, ze12, ze13, ze14, ze20, ze21, ze23, ze24, ze30, ze31, ze32, ze34, ze40, ze41, ze42, ze43, zt0, zt1, zt2, zt3, zt4, zq0, zq1, zq2, zq3, zq4, it_t, it_f, Bool.true_eq_false, Bool.false_eq_true, na5, na4, na1441, na2, na10, sx_IOIA, sx_IOIS, sx_IONS, sx_IAIO, sx_IAIS, sx_IANS, sx_ISIO, sx_ISIA, sx_ISNS, sx_NSIO, sx_NSIA, sx_NSIS, nI_leI, sh]
            rw [if_neg nl]
            refine aJ_gen (R := fun o => o = some (nI v, h_si h1 412 0 (nI 0))) (fun k138 hk138 => ?_)
            have fin : ∀ acc n, acc < 2 ^ T 412 8 → (∀ u, u < T 412 8 → acc.testBit u = rb (trW (T 413)) (T 412 8) m p n u) → (∀ u, u < T 412 8 → rb (trW (T 413)) (T 412 8) m p (n + 1) u = rb (trW (T 413)) (T 412 8) m p n u) → k138 (nI acc) (h_si h1 412 0 (nI 0)) = some (nI v, h_si h1 412 0 (nI 0)) := fun acc n q1 q2 q3 => by
              have a12 := two_pow_lt d0 q1
              have bq : (((nI acc >>> (nI q &&& nI 31)) &&& nI 1 = nI 0) ↔ acc.testBit q = false) := bit_n (by omega) (by omega)
              rw [hk138]
              simp (maxSteps := 3000000) (disch := first | assumption | omega | exact hR.all _) only [bO_v, bR_v, bX_l, bX_r, bC_l, bC_r, aLet_v, nI_add, pk_mul, dvI_n, rmI_n, iMax_n, iMin_n, zO_0, zO_1, li_0, li_1, li_2, li_3, li_4, li_5, li_6, li_7, li_8, li_9, li_10, li_12, li_14, li_15, li_16, li_18, li_19, li_20, li_22, li_23, li_24, li_26, li_29, li_30, li_31, li_32, li_36, li_38, li_48, li_50, li_57, li_58, li_59, li_60, li_63, li_97, li_99, li_120, li_122, li_144, li_168, li_194, li_240, li_255, li_284, li_299, li_603, li_999, li_1200, li_1440, li_4095, li_4096, li_6030, li_16384, li_20160, zl0, zl1, zl2, zl3, zl4, ze01, ze02, ze03, ze04, ze10, ze12, ze13, ze14, ze20, ze21, ze23, ze24, ze30, ze31, ze32, ze34, ze40, ze41, ze42, ze43, zt0, zt1, zt2, zt3, zt4, zq0, zq1, zq2, zq3, zq4, it_t, it_f, Bool.true_eq_false, Bool.false_eq_true, na5, na4, na1441, na2, na10, sx_IOIA, sx_IOIS, sx_IONS, sx_IAIO, sx_IAIS, sx_IANS, sx_ISIO, sx_ISIA, sx_ISNS, sx_NSIO, sx_NSIA, sx_NSIS, bq]
              cases cb : acc.testBit q
              · rw [if_pos rfl]
                obtain ⟨u, rfl⟩ : ∃ u, m = u + 1 := ⟨m - 1, by omega⟩
                rw [m1_n]
                refine ih _ _ _ (Nat.lt_succ_self u) ⟨rfl, u, by omega, rfl, rfl, ?_⟩
                by_cases e : v = u + 1
                · rcases hv0 with e0 | ⟨n', hn'⟩
                  · omega
                  · rw [e] at hn'
                    rw [q2 q hq] at cb
                    by_cases c9 : n' ≤ n
                    · rw [rb_mono c9 hn'] at cb; cases cb
                    · have s := rb_stab q3 (n' - n) q hq
                      rw [show n + (n' - n) = n' by omega, hn', cb] at s
                      cases s
                · omega
              · rw [if_neg (by decide)]
                have := hvm m n (by omega) hL (by rw [← q2 q hq]; exact cb)
                rw [show m = v by omega]
            have bp : ∀ u, u < T 412 8 → (2 ^ p).testBit u = rb (trW (T 413)) (T 412 8) m p 0 u := fun u _ => by
              rw [Nat.testBit_two_pow]
              show decide (p = u) = decide (u = p)
              by_cases e : u = p
              · rw [decide_eq_true e, decide_eq_true e.symm]
              · rw [decide_eq_false e, decide_eq_false (fun q => e q.symm)]
            have lp : 2 ^ p < 2 ^ T 412 8 := Nat.pow_lt_pow_right (by decide) hp
            have lp0 : 0 < 2 ^ p := Nat.two_pow_pos p
            refine aL2_run (R := fun o => o = some (nI v, h_si h1 412 0 (nI 0))) (fun f s1 s2 h2 => h2 = h_si h1 412 0 (nI 0) ∧ ∃ n acc was, s1 = nI acc ∧ s2 = nI was ∧ acc < 2 ^ T 412 8 ∧ was < 2 ^ T 412 8 ∧ (∀ u, u < T 412 8 → acc.testBit u = rb (trW (T 413)) (T 412 8) m p n u) ∧ ((n = 0 ∧ was = 0) ∨ ∃ n', n = n' + 1 ∧ ∀ u, u < T 412 8 → was.testBit u = rb (trW (T 413)) (T 412 8) m p n' u) ∧ f = if acc = was then 0 else 14 - fb_ct (rb (trW (T 413)) (T 412 8) m p n) (T 412 8)) ⟨rfl, 0, 2 ^ p, 0, rfl, rfl, lp, by omega, bp, Or.inl ⟨rfl, rfl⟩, rfl⟩ (by split <;> omega) ?_
            rintro rec2 f s1 s2 h2 ⟨rfl, n, acc, was, rfl, rfl, hacc, hwas, hba, hbw, rfl⟩ ih2
            have a12 := two_pow_lt d0 hacc
            have w12 := two_pow_lt d0 hwas
            simp (maxSteps := 3000000) (disch := first | assumption | omega | exact hR.all _) only [m_X12_trustPath_L26, bO_v, bR_v, bX_l, bX_r, bC_l, bC_r, aLet_v, nI_add, pk_mul, dvI_n, rmI_n, iMax_n, iMin_n, zO_0, zO_1, li_0, li_1, li_2, li_3, li_4, li_5, li_6, li_7, li_8, li_9, li_10, li_12, li_14, li_15, li_16, li_18, li_19, li_20, li_22, li_23, li_24, li_26, li_29, li_30, li_31, li_32, li_36, li_38, li_48, li_50, li_57, li_58, li_59, li_60, li_63, li_97, li_99, li_120, li_122, li_144, li_168, li_194, li_240, li_255, li_284, li_299, li_603, li_999, li_1200, li_1440, li_4095, li_4096, li_6030, li_16384, li_20160, zl0, zl1, zl2, zl3, zl4, ze01, ze02, ze03, ze04, ze10, ze12, ze13, ze14, ze20, ze21, ze23, ze24, ze30, ze31, ze32, ze34, ze40, ze41, ze42, ze43, zt0, zt1, zt2, zt3, zt4, zq0, zq1, zq2, zq3, zq4, it_t, it_f, Bool.true_eq_false, Bool.false_eq_true, na5, na4, na1441, na2, na10, sx_IOIA, sx_IOIS, sx_IONS, sx_IAIO, sx_IAIS, sx_IANS, sx_ISIO, sx_ISIA, sx_ISNS, sx_NSIO, sx_NSIA, sx_NSIS, nI_eq]
            by_cases ce : was = acc
            · rw [if_pos ce]
              rcases hbw with ⟨e1, e2⟩ | ⟨n', e1, e2⟩
              · have := hba p hp
                rw [← ce, e2, e1, Nat.zero_testBit] at this
                exact absurd this (by show ¬ false = decide (p = p); rw [decide_eq_true rfl]; decide)
              · refine fin acc n' hacc (fun u hu => by rw [← ce]; exact e2 u hu) (fun u hu => ?_)
                rw [← e1, ← hba u hu, ← ce, e2 u hu]
            · rw [if_neg ce]
              refine aJ_gen (R := fun o => o = some (nI v, h_si h1 412 0 (nI 0))) (fun k135 hk135 => ?_)
              refine r_pass (R := fun o => o = some (nI v, h_si h1 412 0 (nI 0))) (T := T) S0 z0 hD hL hacc hba (fun acc2 q1 q2 => ?_)
              rw [hk135]
              have ne : ¬ acc = was := fun e => ce e.symm
              have cl := fb_ct_le (rb (trW (T 413)) (T 412 8) m p n) (T 412 8)
              refine ih2 _ _ _ _ ?_ ⟨rfl, n + 1, acc2, acc, rfl, rfl, q1, hacc, q2, Or.inr ⟨n, rfl, hba⟩, rfl⟩
              rw [if_neg ne]
              by_cases e2 : acc2 = acc
              · rw [if_pos e2]; omega
              · rw [if_neg e2]
                have sb : fb_ct (rb (trW (T 413)) (T 412 8) m p n) (T 412 8) ≤ fb_ct (rb (trW (T 413)) (T 412 8) m p (n + 1)) (T 412 8) := fb_ct_sub (fun u _ hu => rb_mono (Nat.le_succ n) hu)
                have ne2 : fb_ct (rb (trW (T 413)) (T 412 8) m p n) (T 412 8) ≠ fb_ct (rb (trW (T 413)) (T 412 8) m p (n + 1)) (T 412 8) := fun e => by
                  have h9 := ct_eq (fun u _ hu => rb_mono (Nat.le_succ n) hu) e
                  exact e2 (mk_ext q1 hacc (fun u hu => by rw [q2 u hu, hba u hu, h9 u hu]))
                omega
end
