/-! duty; steps -/
section
variable {T : Nat → Nat → Nat} {S : Nat → Nat}
theorem endA_gt (hD : PlD T) (hR : RwD T S) {g t : Nat} (hg : g < T 398 9) : t < endA T S g t := by
  have d := hD.trn g hg
  unfold endA
  by_cases c : lst S g t = 0
  · rw [if_pos c]
    have := Nat.lt_div_mul_add (a := t) (b := T 409 g) (by omega)
    rw [Nat.add_mul, Nat.one_mul]
    exact this
  · rw [if_neg c]
    exact lst_lt hR hg (show lst S g t - 1 < lst S g t by omega)
theorem hold_same (hD : PlD T) (hR : RwD T S) {g t u : Nat} (hg : g < T 398 9) (h1 : t ≤ u) (h2 : u < endA T S g t) : hold T S g u = hold T S g t := by
  have d := hD.trn g hg
  unfold endA at h2
  by_cases c : lst S g t = 0
  · rw [if_pos c] at h2
    have c2 : lst S g u = 0 := by
      have : lst S g u ≤ lst S g t := fb_ct_sub (fun k _ hk => decide_eq_true (by have := of_decide_eq_true hk; omega))
      omega
    have e : u / T 409 g = t / T 409 g := by
      have q1 : t / T 409 g ≤ u / T 409 g := Nat.div_le_div_right h1
      have q2 : u / T 409 g < t / T 409 g + 1 := Nat.div_lt_of_lt_mul (by rw [Nat.mul_comm]; exact h2)
      omega
    unfold hold own
    rw [if_pos c, if_pos c2, e]
  · rw [if_neg c] at h2
    have ll := lst_le S g t
    have c2 : lst S g u = lst S g t := lst_is hR hg ll (Or.inr h2) (fun j q1 q2 => by have := lst_ge hR hg q1 q2; omega)
    unfold hold
    rw [c2, if_neg c, if_neg c]
/-- on duty -/
def onD (T : Nat → Nat → Nat) (S : Nat → Nat) (p t : Nat) : Bool := anyB (fun g => decide (hold T S g t = p)) (T 398 9)
def dut (T : Nat → Nat → Nat) (S : Nat → Nat) (p : Nat) : Nat → Nat := fb_ct (fun k => onD T S p (S 0 + k))
theorem dut_run (p : Nat) {i : Nat} {b : Bool} : ∀ {m : Nat}, (∀ k, k < m → onD T S p (S 0 + (i + k)) = b) → dut T S p (i + m) = dut T S p i + (if b then m else 0)
  | 0, _ => by cases b <;> rfl
  | m + 1, h => by
    have ih := dut_run p (i := i) (b := b) (m := m) (fun k hk => h k (by omega))
    unfold dut at ih ⊢
    rw [← Nat.add_assoc, fb_ct_succ, ih, Nat.add_assoc, h m (by omega)]
    cases b <;> simp
end
section
variable {h : aH} {T : Nat → Nat → Nat} {P Q : Nat}
/-- the least end among some pagers -/
def mnE (T : Nat → Nat → Nat) (S : Nat → Nat) (e t : Nat) : Nat → Nat
  | 0 => e
  | g + 1 => min (mnE T S e t g) (endA T S g t)
theorem mnE_le {S : Nat → Nat} {e t : Nat} : ∀ {n g : Nat}, g < n → mnE T S e t n ≤ endA T S g t
  | 0, g, h => absurd h (Nat.not_lt_zero g)
  | n + 1, g, h => by
    rw [mnE]
    by_cases c : g = n
    · rw [c]; omega
    · have := mnE_le (S := S) (e := e) (t := t) (n := n) (g := g) (by omega)
      omega
theorem mnE_e {S : Nat → Nat} {e t : Nat} : ∀ n, mnE T S e t n ≤ e
  | 0 => Nat.le_refl _
  | n + 1 => by
    have := mnE_e (T := T) (S := S) (e := e) (t := t) n
    rw [mnE]; omega
theorem mnE_gt (hD : PlD T) {S : Nat → Nat} (hR : RwD T S) {e t : Nat} (h : t < e) : ∀ {n : Nat}, n ≤ T 398 9 → t < mnE T S e t n
  | 0, _ => h
  | n + 1, hn => by
    have := mnE_gt hD hR h (n := n) (by omega)
    have := endA_gt hD hR (g := n) (t := t) (by omega)
    rw [mnE]; omega
theorem k_duty (hS : Sh h) {a : Nat} {S : Nat → Nat} (ha : a ∈ stL) (hP : P ∈ plL) (x : StR h a P T S) (y : PlR h P T) (hD : PlD T) (hR : RwD T S) (tm : S 0 ≤ 20160) {p n : Nat} (hp : p < T 398 8) (hn : n ≤ 1440) : m_X10_dutyUpTo a (nI p) (nI (S 0 + n)) h = some (nI (dut T S p n), h) := by
  have d0 := hD.nP
  have d1 := hD.nG
  have kp := k_plan hS ha hP x
  have db : ∀ k, dut T S p k ≤ k := fun k => fb_ct_le _ k
  simp (maxSteps := 3000000) (disch := first | assumption | omega | exact hR.all _) only [m_X10_dutyUpTo, bO_v, bR_v, bX_l, bX_r, bC_l, bC_r, aLet_v, nI_add, pk_mul, dvI_n, rmI_n, iMax_n, iMin_n, zO_0, zO_1, li_0, li_1, li_2, li_3, li_4, li_5, li_6, li_7, li_8, li_9, li_10, li_12, li_14, li_15, li_16, li_18, li_19, li_20, li_22, li_23, li_24, li_26, li_29, li_30, li_31, li_32, li_36, li_38, li_48, li_50, li_57, li_58, li_59, li_60, li_63, li_97, li_99, li_120, li_122, li_144, li_168, li_194, li_240, li_255, li_284, li_299, li_603, li_999, li_1200, li_1440, li_4095, li_4096, li_6030, li_16384, li_20160, aJ_v, s_cS_gi hS ha, x.tm]
  refine aL3_run (R := fun o => o = some (nI (dut T S p n), h)) (fun m s1 s2 s3 h1 => h1 = h ∧ ∃ i c, c ≤ i ∧ i ≤ n ∧ m = n - i ∧ s1 = nI (dut T S p i) ∧ s2 = nI (S 0 + i) ∧ s3 = nI c) ⟨rfl, 0, 0, Nat.le_refl _, Nat.zero_le _, rfl, rfl, rfl, rfl⟩ (by omega) ?_
  rintro rec m s1 s2 s3 h1 ⟨rfl, i, c, hc, hi, rfl, rfl, rfl, rfl⟩ ih
  by_cases hlt : i < n
  · have dbi := db i
    simp (maxSteps := 3000000) (disch := first | assumption | omega | exact hR.all _) only [m_X10_dutyUpTo_L11, bO_v, bR_v, bX_l, bX_r, bC_l, bC_r, aLet_v, nI_add, pk_mul, dvI_n, rmI_n, iMax_n, iMin_n, zO_0, zO_1, li_0, li_1, li_2, li_3, li_4, li_5, li_6, li_7, li_8, li_9, li_10, li_12, li_14, li_15, li_16, li_18, li_19, li_20, li_22, li_23, li_24, li_26, li_29, li_30, li_31, li_32, li_36, li_38, li_48, li_50, li_57, li_58, li_59, li_60, li_63, li_97, li_99, li_120, li_122, li_144, li_168, li_194, li_240, li_255, li_284, li_299, li_603, li_999, li_1200, li_1440, li_4095, li_4096, li_6030, li_16384, li_20160, nI_ltI]
    rw [if_pos (show c < 1440 by omega), if_pos (show S 0 + i < S 0 + n by omega)]
    refine aJ_gen (R := fun o => o = some (nI (dut T S p n), h1)) (fun k106 hk106 => ?_)
    refine aL3_run (R := fun o => o = some (nI (dut T S p n), h1)) (fun m s1 s2 s3 h2 => h2 = h1 ∧ ∃ g, g ≤ T 398 9 ∧ m = T 398 9 - g ∧ s1 = nI (mnE T S (S 0 + n) (S 0 + i) g) ∧ s2 = b2i (anyB (fun g => decide (hold T S g (S 0 + i) = p)) g) ∧ s3 = nI g) ⟨rfl, 0, Nat.zero_le _, rfl, rfl, rfl, rfl⟩ (by omega) ?_
    rintro rec2 m s1 s2 s3 h2 ⟨rfl, g, hg, rfl, rfl, rfl, rfl⟩ ih2
    have me := mnE_e (T := T) (S := S) (e := S 0 + n) (t := S 0 + i) g
    by_cases hg2 : g < T 398 9
    · have el := endA_lt hD hR hg2 (t := S 0 + i) (by omega)
      have hl := hold_lt hD hR hg2 (S 0 + i)
      have ke := k_endAt hS ha hP x y hD hR hg2 (t := S 0 + i) (by omega)
      have kh := k_holderThen hS ha hP x y hD hR hg2 (t := S 0 + i) (by omega)
      have mi : iMin (nI (mnE T S (S 0 + n) (S 0 + i) g)) (nI (endA T S g (S 0 + i))) = nI (mnE T S (S 0 + n) (S 0 + i) (g + 1)) := iMin_n (by omega) el
      simp (maxSteps := 3000000) (disch := first | assumption | omega | exact hR.all _) only [m_X10_dutyUpTo_L34, bO_v, bR_v, bX_l, bX_r, bC_l, bC_r, aJ_v, aLet_v, nI_add, pk_mul, dvI_n, rmI_n, iMax_n, iMin_n, zO_0, zO_1, li_0, li_1, li_2, li_3, li_4, li_5, li_6, li_7, li_8, li_9, li_10, li_12, li_14, li_15, li_16, li_18, li_19, li_20, li_22, li_23, li_24, li_26, li_29, li_30, li_31, li_32, li_36, li_38, li_48, li_50, li_57, li_58, li_59, li_60, li_63, li_97, li_99, li_120, li_122, li_144, li_168, li_194, li_240, li_255, li_284, li_299, li_603, li_999, li_1200, li_1440, li_4095, li_4096, li_6030, li_16384, li_20160, s_cS_gS hS ha, kp, p_cP_gi hS hP, y.nG, nI_ltI, ke, kh, mi, b2i_0, nI_eq]
      rw [if_pos hg2]
      by_cases c1 : anyB (fun g => decide (hold T S g (S 0 + i) = p)) g = false
      · rw [if_pos c1]
        by_cases c2 : hold T S g (S 0 + i) = p
        · rw [if_pos c2]
          exact ih2 _ _ _ _ _ (by omega) ⟨rfl, g + 1, hg2, rfl, rfl, by rw [anyB, decide_eq_true c2, Bool.or_true]; rfl, rfl⟩
        · rw [if_neg c2]
          exact ih2 _ _ _ _ _ (by omega) ⟨rfl, g + 1, hg2, rfl, rfl, by rw [anyB, decide_eq_false c2, c1]; rfl, rfl⟩
      · rw [if_neg c1]
        have t1 : anyB (fun g => decide (hold T S g (S 0 + i) = p)) g = true := by simpa using c1
        exact ih2 _ _ _ _ _ (by omega) ⟨rfl, g + 1, hg2, rfl, rfl, by rw [anyB, t1]; rfl, rfl⟩
    · obtain rfl : g = T 398 9 := by omega
      have mg := mnE_gt hD hR (e := S 0 + n) (t := S 0 + i) (by omega) (Nat.le_refl (T 398 9))
      obtain ⟨d, hd⟩ : ∃ d, mnE T S (S 0 + n) (S 0 + i) (T 398 9) = S 0 + (i + d) := ⟨mnE T S (S 0 + n) (S 0 + i) (T 398 9) - S 0 - i, by omega⟩
      have run := dut_run (T := T) (S := S) p (i := i) (m := d) (b := onD T S p (S 0 + i)) (fun k hk => by
        unfold onD
        refine anyB_cong (fun g hg9 => ?_)
        have := mnE_le (T := T) (S := S) (e := S 0 + n) (t := S 0 + i) hg9
        rw [hold_same hD hR hg9 (t := S 0 + i) (by omega) (by omega)])
      have dbd := db (i + d)
      rw [hd]
      simp (maxSteps := 3000000) (disch := first | assumption | omega | exact hR.all _) only [m_X10_dutyUpTo_L34, bO_v, bR_v, bX_l, bX_r, bC_l, bC_r, aLet_v, nI_add, pk_mul, dvI_n, rmI_n, iMax_n, iMin_n, zO_0, zO_1, li_0, li_1, li_2, li_3, li_4, li_5, li_6, li_7, li_8, li_9, li_10, li_12, li_14, li_15, li_16, li_18, li_19, li_20, li_22, li_23, li_24, li_26, li_29, li_30, li_31, li_32, li_36, li_38, li_48, li_50, li_57, li_58, li_59, li_60, li_63, li_97, li_99, li_120, li_122, li_144, li_168, li_194, li_240, li_255, li_284, li_299, li_603, li_999, li_1200, li_1440, li_4095, li_4096, li_6030, li_16384, li_20160, kp, p_cP_gi hS hP, y.nG, nI_ltI, hk106, b2i_0]
      rw [if_neg hg2]
      have eo : anyB (fun g => decide (hold T S g (S 0 + i) = p)) (T 398 9) = onD T S p (S 0 + i) := rfl
      rw [eo]
      cases c1 : onD T S p (S 0 + i)
      · rw [c1] at run
        rw [if_pos rfl]
        simp (maxSteps := 3000000) (disch := first | assumption | omega | exact hR.all _) only [bO_v, bR_v, bX_l, bX_r, bC_l, bC_r, aLet_v, nI_add, pk_mul, dvI_n, rmI_n, iMax_n, iMin_n, zO_0, zO_1, li_0, li_1, li_2, li_3, li_4, li_5, li_6, li_7, li_8, li_9, li_10, li_12, li_14, li_15, li_16, li_18, li_19, li_20, li_22, li_23, li_24, li_26, li_29, li_30, li_31, li_32, li_36, li_38, li_48, li_50, li_57, li_58, li_59, li_60, li_63, li_97, li_99, li_120, li_122, li_144, li_168, li_194, li_240, li_255, li_284, li_299, li_603, li_999, li_1200, li_1440, li_4095, li_4096, li_6030, li_16384, li_20160]
        exact ih (n - (i + d)) _ _ _ _ (by omega) ⟨rfl, i + d, c + 1, by omega, by omega, rfl, by rw [run]; rfl, rfl, rfl⟩
      · rw [c1] at run
        rw [if_neg (by decide), pk_sub (by omega)]
        simp (maxSteps := 3000000) (disch := first | assumption | omega | exact hR.all _) only [bO_v, bR_v, bX_l, bX_r, bC_l, bC_r, aLet_v, nI_add, pk_mul, dvI_n, rmI_n, iMax_n, iMin_n, zO_0, zO_1, li_0, li_1, li_2, li_3, li_4, li_5, li_6, li_7, li_8, li_9, li_10, li_12, li_14, li_15, li_16, li_18, li_19, li_20, li_22, li_23, li_24, li_26, li_29, li_30, li_31, li_32, li_36, li_38, li_48, li_50, li_57, li_58, li_59, li_60, li_63, li_97, li_99, li_120, li_122, li_144, li_168, li_194, li_240, li_255, li_284, li_299, li_603, li_999, li_1200, li_1440, li_4095, li_4096, li_6030, li_16384, li_20160]
        refine ih (n - (i + d)) _ _ _ _ (by omega) ⟨rfl, i + d, c + 1, by omega, by omega, rfl, ?_, rfl, rfl⟩
        rw [run, if_pos rfl, show S 0 + (i + d) - (S 0 + i) = d by omega]
  · obtain rfl : i = n := by omega
    simp (maxSteps := 3000000) (disch := first | assumption | omega | exact hR.all _) only [m_X10_dutyUpTo_L11, bO_v, bR_v, bX_l, bX_r, bC_l, bC_r, aLet_v, nI_add, pk_mul, dvI_n, rmI_n, iMax_n, iMin_n, zO_0, zO_1, li_0, li_1, li_2, li_3, li_4, li_5, li_6, li_7, li_8, li_9, li_10, li_12, li_14, li_15, li_16, li_18, li_19, li_20, li_22, li_23, li_24, li_26, li_29, li_30, li_31, li_32, li_36, li_38, li_48, li_50, li_57, li_58, li_59, li_60, li_63, li_97, li_99, li_120, li_122, li_144, li_168, li_194, li_240, li_255, li_284, li_299, li_603, li_999, li_1200, li_1440, li_4095, li_4096, li_6030, li_16384, li_20160, nI_ltI]
    rw [if_neg (show ¬ S 0 + i < S 0 + i by omega)]
    split <;> rfl
theorem q_dutyMinutes (I : IV h T P Q) (p n : Int32) : QQ h T P Q (m_L_dutyMinutes 1 p n 448 h) (m_X12_dutyMinutes 398 p n) := by
  have hS := I.sh
  have hD := I.D
  have hR := I.R
  have hP := I.hP
  have y := I.y
  have d0 := hD.nP
  have d1 := hD.nG
  have d2 := hD.nE
  have d3 := hD.nK
  have d4 := hR.tm
  obtain ⟨a, ha, g5, x, -⟩ := I.st
  have tm2 := I.RB.2.2
  have n10 : ¬ nI 1 = nI 0 := by decide
  have n20 : ¬ nI 2 = nI 0 := by decide
  have RX : ∀ h1 k u, Sh h1 → RefR h1 T → (k = 1 ∨ k = 2) → aL2 (m_X12_dutyMinutes_L43 398 p n fun x8 h4 => some (x8, h4)) FU (nI 0) u (h_si h1 398 0 (nI k)) = some (nI 0, h_si h1 398 0 (nI k)) := fun h1 k u S1 z1 hk => by
    have S0 : Sh (h_si h1 398 0 (nI k)) := S1.si _ _ _
    refine aL2_run (R := fun o => o = some (nI 0, h_si h1 398 0 (nI k))) (fun m s1 s2 h2 => h2 = h_si h1 398 0 (nI k) ∧ s1 = nI 0) (m := 0) ⟨rfl, rfl⟩ (by decide) ?_
    rintro rec m s1 s2 h2 ⟨rfl, rfl⟩ -
    rcases hk with rfl | rfl
    · simp (maxSteps := 3000000) (disch := first | assumption | omega | exact hR.all _) only [m_X12_dutyMinutes_L43, bO_v, bR_v, bX_l, bX_r, bC_l, bC_r, aJ_v, aLet_v, nI_add, pk_mul, dvI_n, rmI_n, iMax_n, iMin_n, zO_0, zO_1, li_0, li_1, li_2, li_3, li_4, li_5, li_6, li_7, li_8, li_9, li_10, li_12, li_14, li_15, li_16, li_18, li_19, li_20, li_22, li_23, li_24, li_26, li_29, li_30, li_31, li_32, li_36, li_38, li_48, li_50, li_57, li_58, li_59, li_60, li_63, li_97, li_99, li_120, li_122, li_144, li_168, li_194, li_240, li_255, li_284, li_299, li_603, li_999, li_1200, li_1440, li_4095, li_4096, li_6030, li_16384, li_20160, rz_gi S1, n10]
    · simp (maxSteps := 3000000) (disch := first | assumption | omega | exact hR.all _) only [m_X12_dutyMinutes_L43, bO_v, bR_v, bX_l, bX_r, bC_l, bC_r, aJ_v, aLet_v, nI_add, pk_mul, dvI_n, rmI_n, iMax_n, iMin_n, zO_0, zO_1, li_0, li_1, li_2, li_3, li_4, li_5, li_6, li_7, li_8, li_9, li_10, li_12, li_14, li_15, li_16, li_18, li_19, li_20, li_22, li_23, li_24, li_26, li_29, li_30, li_31, li_32, li_36, li_38, li_48, li_50, li_57, li_58, li_59, li_60, li_63, li_97, li_99, li_120, li_122, li_144, li_168, li_194, li_240, li_255, li_284, li_299, li_603, li_999, li_1200, li_1440, li_4095, li_4096, li_6030, li_16384, li_20160, rz_gi S1, n20]
  cases c : inr p (T 398 8)
  · refine ⟨1, 0, by decide, cq_exc ?_ (by decide), fun h1 I1 => ?_⟩
    · simp (maxSteps := 3000000) (disch := first | assumption | omega | exact hR.all _) only [m_L_dutyMinutes, m_X11_dutyMinutes, bO_v, bR_v, bX_l, bX_r, bC_l, bC_r, aJ_v, aLet_v, nI_add, pk_mul, dvI_n, rmI_n, iMax_n, iMin_n, zO_0, zO_1, li_0, li_1, li_2, li_3, li_4, li_5, li_6, li_7, li_8, li_9, li_10, li_12, li_14, li_15, li_16, li_18, li_19, li_20, li_22, li_23, li_24, li_26, li_29, li_30, li_31, li_32, li_36, li_38, li_48, li_50, li_57, li_58, li_59, li_60, li_63, li_97, li_99, li_120, li_122, li_144, li_168, li_194, li_240, li_255, li_284, li_299, li_603, li_999, li_1200, li_1440, li_4095, li_4096, li_6030, li_16384, li_20160, c_cX_gS hS, c_cX_gi hS, c_pmu hS, c_co_as hS, s_cS_gi hS ha, s_cS_gL hS ha, s_cS_pi hS ha, s_cS_pL hS ha, s_cS_gS hS ha, s_clost_al hS ha, s_clost_as hS ha, s_clost_ln hS ha, s_cout_al hS ha, s_cout_as hS ha, s_cout_ln hS ha, s_cpaid_al hS ha, s_cpaid_as hS ha, s_cpaid_ln hS ha, s_ctrust_al hS ha, s_ctrust_as hS ha, s_ctrust_ln hS ha, s_crot_al hS ha, s_crot_as hS ha, s_crot_ln hS ha, s_chands_al hS ha, s_chands_as hS ha, s_chands_ln hS ha, s_cto_al hS ha, s_cto_as hS ha, s_cto_ln hS ha, s_cends_al hS ha, s_cends_as hS ha, s_cends_ln hS ha, s_cret_al hS ha, s_cret_as hS ha, s_cret_ln hS ha, s_ccrew_al hS ha, s_ccrew_as hS ha, s_ccrew_ln hS ha, s_cL_gi hS ha, s_cL_gL hS ha, s_cL_pi hS ha, s_cL_pL hS ha, s_cL_gS hS ha, s_clcosts_al hS ha, s_clcosts_as hS ha, s_clcosts_ln hS ha, s_clcomers_al hS ha, s_clcomers_as hS ha, s_clcomers_ln hS ha, s_clleavers_al hS ha, s_clleavers_as hS ha, s_clleavers_ln hS ha, s_clengs_al hS ha, s_clengs_as hS ha, s_clengs_ln hS ha, s_cltimes_al hS ha, s_cltimes_as hS ha, s_cltimes_ln hS ha, s_clcrews_al hS ha, s_clcrews_as hS ha, s_clcrews_ln hS ha, s_plost hS ha, s_pout hS ha, s_ppaid hS ha, s_ptrust hS ha, s_prot hS ha, s_phands hS ha, s_pto hS ha, s_pends hS ha, s_pret hS ha, s_pcrew hS ha, s_plog hS ha, s_plcosts hS ha, s_plcomers hS ha, s_plleavers hS ha, s_plengs hS ha, s_pltimes hS ha, s_plcrews hS ha, p_cP_gi hS hP, p_cP_gL hS hP, p_cP_pi hS hP, p_cP_pL hS hP, p_cP_gS hS hP, p_cN_gi hS hP, p_cN_gL hS hP, p_cN_pi hS hP, p_cN_pL hS hP, p_cN_gS hS hP, p_cps_ln hS hP, p_ctr_al hS hP, p_ctr_as hS hP, p_ctr_ln hS hP, p_cgs_ln hS hP, p_ces_ln hS hP, p_cks_ln hS hP, p_cable_al hS hP, p_cable_as hS hP, p_cable_ln hS hP, p_pN hS hP, p_pps hS hP, p_ptr hS hP, p_pgs hS hP, p_pes hS hP, p_pks hS hP, p_pable hS hP, p_ep_al hS hP, p_ep_gi hS hP, p_ep_gL hS hP, p_ep_pi hS hP, p_ep_pL hS hP, p_ep_gS hS hP, p_eg_al hS hP, p_eg_gi hS hP, p_eg_gL hS hP, p_eg_pi hS hP, p_eg_pL hS hP, p_eg_gS hS hP, p_egr_p hS hP, p_egr_al hS hP, p_egr_as hS hP, p_egr_ln hS hP, p_ee_al hS hP, p_ee_gi hS hP, p_ee_gL hS hP, p_ee_pi hS hP, p_ee_pL hS hP, p_ee_gS hS hP, p_ees_p hS hP, p_ees_al hS hP, p_ees_as hS hP, p_ees_ln hS hP, p_eed_p hS hP, p_eed_al hS hP, p_eed_as hS hP, p_eed_ln hS hP, p_ek_al hS hP, p_ek_gi hS hP, p_ek_gL hS hP, p_ek_pi hS hP, p_ek_pL hS hP, p_ek_gS hS hP, p_ekg_p hS hP, p_ekg_al hS hP, p_ekg_as hS hP, p_ekg_ln hS hP, p_eke_p hS hP, p_eke_al hS hP, p_eke_as hS hP, p_eke_ln hS hP, g5, I.g3, b2i_0, I.needPerson, I.needPager, I.needEngine, I.needKind, I.needCall, I.needTwo, c]
    · have S1 := I1.sh
      have S0 : Sh (h_si h1 398 0 (nI 1)) := S1.si _ _ _
      refine rq_exc (w := nI 0) ?_ (by decide)
      simp (maxSteps := 3000000) (disch := first | assumption | omega | exact hR.all _) only [m_X12_dutyMinutes, bO_v, bR_v, bX_l, bX_r, bC_l, bC_r, aJ_v, aLet_v, nI_add, pk_mul, dvI_n, rmI_n, iMax_n, iMin_n, zO_0, zO_1, li_0, li_1, li_2, li_3, li_4, li_5, li_6, li_7, li_8, li_9, li_10, li_12, li_14, li_15, li_16, li_18, li_19, li_20, li_22, li_23, li_24, li_26, li_29, li_30, li_31, li_32, li_36, li_38, li_48, li_50, li_57, li_58, li_59, li_60, li_63, li_97, li_99, li_120, li_122, li_144, li_168, li_194, li_240, li_255, li_284, li_299, li_603, li_999, li_1200, li_1440, li_4095, li_4096, li_6030, li_16384, li_20160, r_cM_gS S1, r_cM_pi S1, rz_gi S1, r_p399 S1, r_c399_al S1, r_isPerson S1 I1.z hD, r_isPager S1 I1.z hD, r_isKind S1 I1.z hD, r_isCouple S1 I1.z hD, b2i_0, nI_leI, r_p399 S0, r_c399_al S0, c, RX h1 1 _ S1 I1.z (Or.inl rfl)]
  · obtain ⟨p, hp, rfl⟩ := inr_t c (by omega)
    by_cases c1 : n < nI 1
    · refine ⟨2, 0, by decide, cq_exc ?_ (by decide), fun h1 I1 => ?_⟩
      · simp (maxSteps := 3000000) (disch := first | assumption | omega | exact hR.all _) only [m_L_dutyMinutes, m_X11_dutyMinutes, bO_v, bR_v, bX_l, bX_r, bC_l, bC_r, aJ_v, aLet_v, nI_add, pk_mul, dvI_n, rmI_n, iMax_n, iMin_n, zO_0, zO_1, li_0, li_1, li_2, li_3, li_4, li_5, li_6, li_7, li_8, li_9, li_10, li_12, li_14, li_15, li_16, li_18, li_19, li_20, li_22, li_23, li_24, li_26, li_29, li_30, li_31, li_32, li_36, li_38, li_48, li_50, li_57, li_58, li_59, li_60, li_63, li_97, li_99, li_120, li_122, li_144, li_168, li_194, li_240, li_255, li_284, li_299, li_603, li_999, li_1200, li_1440, li_4095, li_4096, li_6030, li_16384, li_20160, c_cX_gS hS, c_cX_gi hS, c_pmu hS, c_co_as hS, s_cS_gi hS ha, s_cS_gL hS ha, s_cS_pi hS ha, s_cS_pL hS ha, s_cS_gS hS ha, s_clost_al hS ha, s_clost_as hS ha, s_clost_ln hS ha, s_cout_al hS ha, s_cout_as hS ha, s_cout_ln hS ha, s_cpaid_al hS ha, s_cpaid_as hS ha, s_cpaid_ln hS ha, s_ctrust_al hS ha, s_ctrust_as hS ha, s_ctrust_ln hS ha, s_crot_al hS ha, s_crot_as hS ha, s_crot_ln hS ha, s_chands_al hS ha, s_chands_as hS ha, s_chands_ln hS ha, s_cto_al hS ha, s_cto_as hS ha, s_cto_ln hS ha, s_cends_al hS ha, s_cends_as hS ha, s_cends_ln hS ha, s_cret_al hS ha, s_cret_as hS ha, s_cret_ln hS ha, s_ccrew_al hS ha, s_ccrew_as hS ha, s_ccrew_ln hS ha, s_cL_gi hS ha, s_cL_gL hS ha, s_cL_pi hS ha, s_cL_pL hS ha, s_cL_gS hS ha, s_clcosts_al hS ha, s_clcosts_as hS ha, s_clcosts_ln hS ha, s_clcomers_al hS ha, s_clcomers_as hS ha, s_clcomers_ln hS ha, s_clleavers_al hS ha, s_clleavers_as hS ha, s_clleavers_ln hS ha, s_clengs_al hS ha, s_clengs_as hS ha, s_clengs_ln hS ha, s_cltimes_al hS ha, s_cltimes_as hS ha, s_cltimes_ln hS ha, s_clcrews_al hS ha, s_clcrews_as hS ha, s_clcrews_ln hS ha, s_plost hS ha, s_pout hS ha, s_ppaid hS ha, s_ptrust hS ha, s_prot hS ha, s_phands hS ha, s_pto hS ha, s_pends hS ha, s_pret hS ha, s_pcrew hS ha, s_plog hS ha, s_plcosts hS ha, s_plcomers hS ha, s_plleavers hS ha, s_plengs hS ha, s_pltimes hS ha, s_plcrews hS ha, p_cP_gi hS hP, p_cP_gL hS hP, p_cP_pi hS hP, p_cP_pL hS hP, p_cP_gS hS hP, p_cN_gi hS hP, p_cN_gL hS hP, p_cN_pi hS hP, p_cN_pL hS hP, p_cN_gS hS hP, p_cps_ln hS hP, p_ctr_al hS hP, p_ctr_as hS hP, p_ctr_ln hS hP, p_cgs_ln hS hP, p_ces_ln hS hP, p_cks_ln hS hP, p_cable_al hS hP, p_cable_as hS hP, p_cable_ln hS hP, p_pN hS hP, p_pps hS hP, p_ptr hS hP, p_pgs hS hP, p_pes hS hP, p_pks hS hP, p_pable hS hP, p_ep_al hS hP, p_ep_gi hS hP, p_ep_gL hS hP, p_ep_pi hS hP, p_ep_pL hS hP, p_ep_gS hS hP, p_eg_al hS hP, p_eg_gi hS hP, p_eg_gL hS hP, p_eg_pi hS hP, p_eg_pL hS hP, p_eg_gS hS hP, p_egr_p hS hP, p_egr_al hS hP, p_egr_as hS hP, p_egr_ln hS hP, p_ee_al hS hP, p_ee_gi hS hP, p_ee_gL hS hP, p_ee_pi hS hP, p_ee_pL hS hP, p_ee_gS hS hP, p_ees_p hS hP, p_ees_al hS hP, p_ees_as hS hP, p_ees_ln hS hP, p_eed_p hS hP, p_eed_al hS hP, p_eed_as hS hP, p_eed_ln hS hP, p_ek_al hS hP, p_ek_gi hS hP, p_ek_gL hS hP, p_ek_pi hS hP, p_ek_pL hS hP, p_ek_gS hS hP, p_ekg_p hS hP, p_ekg_al hS hP, p_ekg_as hS hP, p_ekg_ln hS hP, p_eke_p hS hP, p_eke_al hS hP, p_eke_as hS hP, p_eke_ln hS hP, g5, I.g3, b2i_0, I.needPerson, I.needPager, I.needEngine, I.needKind, I.needCall, I.needTwo, c, c1]
      · have S1 := I1.sh
        have S0 : Sh (h_si h1 398 0 (nI 2)) := S1.si _ _ _
        refine rq_exc (w := nI 0) ?_ (by decide)
        simp (maxSteps := 3000000) (disch := first | assumption | omega | exact hR.all _) only [m_X12_dutyMinutes, bO_v, bR_v, bX_l, bX_r, bC_l, bC_r, aJ_v, aLet_v, nI_add, pk_mul, dvI_n, rmI_n, iMax_n, iMin_n, zO_0, zO_1, li_0, li_1, li_2, li_3, li_4, li_5, li_6, li_7, li_8, li_9, li_10, li_12, li_14, li_15, li_16, li_18, li_19, li_20, li_22, li_23, li_24, li_26, li_29, li_30, li_31, li_32, li_36, li_38, li_48, li_50, li_57, li_58, li_59, li_60, li_63, li_97, li_99, li_120, li_122, li_144, li_168, li_194, li_240, li_255, li_284, li_299, li_603, li_999, li_1200, li_1440, li_4095, li_4096, li_6030, li_16384, li_20160, r_cM_gS S1, r_cM_pi S1, rz_gi S1, r_p399 S1, r_c399_al S1, r_isPerson S1 I1.z hD, r_isPager S1 I1.z hD, r_isKind S1 I1.z hD, r_isCouple S1 I1.z hD, b2i_0, nI_leI, r_p399 S0, r_c399_al S0, c, r_inD, c1, decide_true, Bool.not_true, Bool.false_and, RX h1 2 _ S1 I1.z (Or.inr rfl)]
    · by_cases c2 : n ≤ nI 1440
      · obtain ⟨n, n1, n2, rfl⟩ := span_n (y := n) (by decide) (show 1440 < 1000000 by decide) c1 c2
        refine ⟨0, nI (dut T (T 399) p n), by decide, cq_val ?_, fun h1 I1 => ?_⟩
        · simp (maxSteps := 3000000) (disch := first | assumption | omega | exact hR.all _) only [m_L_dutyMinutes, m_X11_dutyMinutes, bO_v, bR_v, bX_l, bX_r, bC_l, bC_r, aJ_v, aLet_v, nI_add, pk_mul, dvI_n, rmI_n, iMax_n, iMin_n, zO_0, zO_1, li_0, li_1, li_2, li_3, li_4, li_5, li_6, li_7, li_8, li_9, li_10, li_12, li_14, li_15, li_16, li_18, li_19, li_20, li_22, li_23, li_24, li_26, li_29, li_30, li_31, li_32, li_36, li_38, li_48, li_50, li_57, li_58, li_59, li_60, li_63, li_97, li_99, li_120, li_122, li_144, li_168, li_194, li_240, li_255, li_284, li_299, li_603, li_999, li_1200, li_1440, li_4095, li_4096, li_6030, li_16384, li_20160, c_cX_gS hS, c_cX_gi hS, c_pmu hS, c_co_as hS, s_cS_gi hS ha, s_cS_gL hS ha, s_cS_pi hS ha, s_cS_pL hS ha, s_cS_gS hS ha, s_clost_al hS ha, s_clost_as hS ha, s_clost_ln hS ha, s_cout_al hS ha, s_cout_as hS ha, s_cout_ln hS ha, s_cpaid_al hS ha, s_cpaid_as hS ha, s_cpaid_ln hS ha, s_ctrust_al hS ha, s_ctrust_as hS ha, s_ctrust_ln hS ha, s_crot_al hS ha, s_crot_as hS ha, s_crot_ln hS ha, s_chands_al hS ha, s_chands_as hS ha, s_chands_ln hS ha, s_cto_al hS ha, s_cto_as hS ha, s_cto_ln hS ha, s_cends_al hS ha, s_cends_as hS ha, s_cends_ln hS ha, s_cret_al hS ha, s_cret_as hS ha, s_cret_ln hS ha, s_ccrew_al hS ha, s_ccrew_as hS ha, s_ccrew_ln hS ha, s_cL_gi hS ha, s_cL_gL hS ha, s_cL_pi hS ha, s_cL_pL hS ha, s_cL_gS hS ha, s_clcosts_al hS ha, s_clcosts_as hS ha, s_clcosts_ln hS ha, s_clcomers_al hS ha, s_clcomers_as hS ha, s_clcomers_ln hS ha, s_clleavers_al hS ha, s_clleavers_as hS ha, s_clleavers_ln hS ha, s_clengs_al hS ha, s_clengs_as hS ha, s_clengs_ln hS ha, s_cltimes_al hS ha, s_cltimes_as hS ha, s_cltimes_ln hS ha, s_clcrews_al hS ha, s_clcrews_as hS ha, s_clcrews_ln hS ha, s_plost hS ha, s_pout hS ha, s_ppaid hS ha, s_ptrust hS ha, s_prot hS ha, s_phands hS ha, s_pto hS ha, s_pends hS ha, s_pret hS ha, s_pcrew hS ha, s_plog hS ha, s_plcosts hS ha, s_plcomers hS ha, s_plleavers hS ha, s_plengs hS ha, s_pltimes hS ha, s_plcrews hS ha, p_cP_gi hS hP, p_cP_gL hS hP, p_cP_pi hS hP, p_cP_pL hS hP, p_cP_gS hS hP, p_cN_gi hS hP, p_cN_gL hS hP, p_cN_pi hS hP, p_cN_pL hS hP, p_cN_gS hS hP, p_cps_ln hS hP, p_ctr_al hS hP, p_ctr_as hS hP, p_ctr_ln hS hP, p_cgs_ln hS hP, p_ces_ln hS hP, p_cks_ln hS hP, p_cable_al hS hP, p_cable_as hS hP, p_cable_ln hS hP, p_pN hS hP, p_pps hS hP, p_ptr hS hP, p_pgs hS hP, p_pes hS hP, p_pks hS hP, p_pable hS hP, p_ep_al hS hP, p_ep_gi hS hP, p_ep_gL hS hP, p_ep_pi hS hP, p_ep_pL hS hP, p_ep_gS hS hP, p_eg_al hS hP, p_eg_gi hS hP, p_eg_gL hS hP, p_eg_pi hS hP, p_eg_pL hS hP, p_eg_gS hS hP, p_egr_p hS hP, p_egr_al hS hP, p_egr_as hS hP, p_egr_ln hS hP, p_ee_al hS hP, p_ee_gi hS hP, p_ee_gL hS hP, p_ee_pi hS hP, p_ee_pL hS hP, p_ee_gS hS hP, p_ees_p hS hP, p_ees_al hS hP, p_ees_as hS hP, p_ees_ln hS hP, p_eed_p hS hP, p_eed_al hS hP, p_eed_as hS hP, p_eed_ln hS hP, p_ek_al hS hP, p_ek_gi hS hP, p_ek_gL hS hP, p_ek_pi hS hP, p_ek_pL hS hP, p_ek_gS hS hP, p_ekg_p hS hP, p_ekg_al hS hP, p_ekg_as hS hP, p_ekg_ln hS hP, p_eke_p hS hP, p_eke_al hS hP, p_eke_as hS hP, p_eke_ln hS hP, g5, I.g3, b2i_0, I.needPerson, I.needPager, I.needEngine, I.needKind, I.needCall, I.needTwo, c, c1, c2, x.tm, k_duty hS ha hP x y hD hR tm2 hp n2]
        · have S1 := I1.sh
          have S0 : Sh (h_si h1 398 0 (nI 0)) := S1.si _ _ _
          have z0 : RefR (h_si h1 398 0 (nI 0)) T := I1.z.rz
          refine rq_val ?_
          simp (maxSteps := 3000000) (disch := first | assumption | omega | exact hR.all _) only [m_X12_dutyMinutes, bO_v, bR_v, bX_l, bX_r, bC_l, bC_r, aLet_v, nI_add, pk_mul, dvI_n, rmI_n, iMax_n, iMin_n, zO_0, zO_1, li_0, li_1, li_2, li_3, li_4, li_5, li_6, li_7, li_8, li_9, li_10, li_12, li_14, li_15, li_16, li_18, li_19, li_20, li_22, li_23, li_24, li_26, li_29, li_30, li_31, li_32, li_36, li_38, li_48, li_50, li_57, li_58, li_59, li_60, li_63, li_97, li_99, li_120, li_122, li_144, li_168, li_194, li_240, li_255, li_284, li_299, li_603, li_999, li_1200, li_1440, li_4095, li_4096, li_6030, li_16384, li_20160, r_cM_gS S1, r_isPerson S1 I1.z hD, c, b2i_0, r_inD, c1, c2, decide_true, decide_false, Bool.not_false, Bool.true_and, Bool.true_eq_false, r_cM_pi S1, r_p399 S0, r_c399_al S0, z0.c399, aJ_v]
          refine aL2_run (R := fun o => o = some (nI (dut T (T 399) p n), h_si h1 398 0 (nI 0))) (fun m s1 s2 h2 => h2 = h_si h1 398 0 (nI 0) ∧ ∃ i, i ≤ n ∧ m = n - i ∧ s2 = nI (T 399 0 + i) ∧ s1 = nI (dut T (T 399) p i)) ⟨rfl, 0, Nat.zero_le _, rfl, rfl, rfl⟩ (by omega) ?_
          rintro rec m s1 s2 h2 ⟨rfl, i, hi, rfl, rfl, rfl⟩ ih
          have db : dut T (T 399) p i ≤ i := fb_ct_le _ i
          by_cases hlt : i < n
          · simp (maxSteps := 3000000) (disch := first | assumption | omega | exact hR.all _) only [m_X12_dutyMinutes_L43, bO_v, bR_v, bX_l, bX_r, bC_l, bC_r, aLet_v, nI_add, pk_mul, dvI_n, rmI_n, iMax_n, iMin_n, zO_0, zO_1, li_0, li_1, li_2, li_3, li_4, li_5, li_6, li_7, li_8, li_9, li_10, li_12, li_14, li_15, li_16, li_18, li_19, li_20, li_22, li_23, li_24, li_26, li_29, li_30, li_31, li_32, li_36, li_38, li_48, li_50, li_57, li_58, li_59, li_60, li_63, li_97, li_99, li_120, li_122, li_144, li_168, li_194, li_240, li_255, li_284, li_299, li_603, li_999, li_1200, li_1440, li_4095, li_4096, li_6030, li_16384, li_20160, rz_gi S1, r_p399 S0, r_c399_al S0, z0.c399, nI_ltI]
            rw [if_pos trivial, if_pos (show T 399 0 + i < T 399 0 + n by omega)]
            refine aJ_gen (R := fun o => o = some (nI (dut T (T 399) p n), h_si h1 398 0 (nI 0))) (fun k106 hk106 => ?_)
            refine aL2_run (R := fun o => o = some (nI (dut T (T 399) p n), h_si h1 398 0 (nI 0))) (fun m s1 s2 h2 => h2 = h_si h1 398 0 (nI 0) ∧ ∃ g, g ≤ T 398 9 ∧ m = T 398 9 - g ∧ s1 = b2i (anyB (fun g => decide (hold T (T 399) g (T 399 0 + i) = p)) g) ∧ s2 = nI g) ⟨rfl, 0, Nat.zero_le _, rfl, rfl, rfl⟩ (by omega) ?_
            rintro rec2 m s1 s2 h2 ⟨rfl, g, hg, rfl, rfl, rfl⟩ ih2
            by_cases hg2 : g < T 398 9
            · have hl := hold_lt hD hR hg2 (T 399 0 + i)
              simp (maxSteps := 3000000) (disch := first | assumption | omega | exact hR.all _) only [m_X12_dutyMinutes_L69, bO_v, bR_v, bX_l, bX_r, bC_l, bC_r, aJ_v, aLet_v, nI_add, pk_mul, dvI_n, rmI_n, iMax_n, iMin_n, zO_0, zO_1, li_0, li_1, li_2, li_3, li_4, li_5, li_6, li_7, li_8, li_9, li_10, li_12, li_14, li_15, li_16, li_18, li_19, li_20, li_22, li_23, li_24, li_26, li_29, li_30, li_31, li_32, li_36, li_38, li_48, li_50, li_57, li_58, li_59, li_60, li_63, li_97, li_99, li_120, li_122, li_144, li_168, li_194, li_240, li_255, li_284, li_299, li_603, li_999, li_1200, li_1440, li_4095, li_4096, li_6030, li_16384, li_20160, r_cM_gi S0, z0.f9, nI_ltI, r_cM_gS S0, r_holderThen S0 z0 hD hR hg2 (show T 399 0 + i < 1000000 by omega) (show T 399 0 ≤ T 399 0 + i by omega), nI_eq]
              rw [if_pos hg2]
              by_cases c3 : hold T (T 399) g (T 399 0 + i) = p
              · rw [if_pos c3]
                exact ih2 _ _ _ _ (by omega) ⟨rfl, g + 1, hg2, rfl, (b2i_or _ true).trans (by rw [anyB, decide_eq_true c3]), rfl⟩
              · rw [if_neg c3]
                exact ih2 _ _ _ _ (by omega) ⟨rfl, g + 1, hg2, rfl, (b2i_or _ false).trans (by rw [anyB, decide_eq_false c3]), rfl⟩
            · obtain rfl : g = T 398 9 := by omega
              simp (maxSteps := 3000000) (disch := first | assumption | omega | exact hR.all _) only [m_X12_dutyMinutes_L69, bO_v, bR_v, bX_l, bX_r, bC_l, bC_r, aLet_v, nI_add, pk_mul, dvI_n, rmI_n, iMax_n, iMin_n, zO_0, zO_1, li_0, li_1, li_2, li_3, li_4, li_5, li_6, li_7, li_8, li_9, li_10, li_12, li_14, li_15, li_16, li_18, li_19, li_20, li_22, li_23, li_24, li_26, li_29, li_30, li_31, li_32, li_36, li_38, li_48, li_50, li_57, li_58, li_59, li_60, li_63, li_97, li_99, li_120, li_122, li_144, li_168, li_194, li_240, li_255, li_284, li_299, li_603, li_999, li_1200, li_1440, li_4095, li_4096, li_6030, li_16384, li_20160, r_cM_gi S0, z0.f9, nI_ltI, hk106, b2i_0]
              rw [if_neg hg2]
              have eo : anyB (fun g => decide (hold T (T 399) g (T 399 0 + i) = p)) (T 398 9) = onD T (T 399) p (T 399 0 + i) := rfl
              rw [eo]
              cases c1 : onD T (T 399) p (T 399 0 + i)
              · rw [if_pos rfl]
                simp (maxSteps := 3000000) (disch := first | assumption | omega | exact hR.all _) only [bO_v, bR_v, bX_l, bX_r, bC_l, bC_r, aLet_v, nI_add, pk_mul, dvI_n, rmI_n, iMax_n, iMin_n, zO_0, zO_1, li_0, li_1, li_2, li_3, li_4, li_5, li_6, li_7, li_8, li_9, li_10, li_12, li_14, li_15, li_16, li_18, li_19, li_20, li_22, li_23, li_24, li_26, li_29, li_30, li_31, li_32, li_36, li_38, li_48, li_50, li_57, li_58, li_59, li_60, li_63, li_97, li_99, li_120, li_122, li_144, li_168, li_194, li_240, li_255, li_284, li_299, li_603, li_999, li_1200, li_1440, li_4095, li_4096, li_6030, li_16384, li_20160]
                exact ih _ _ _ _ (by omega) ⟨rfl, i + 1, hlt, rfl, by rw [Nat.add_assoc], by unfold dut; rw [fb_ct_succ, c1]; rfl⟩
              · rw [if_neg (by decide)]
                simp (maxSteps := 3000000) (disch := first | assumption | omega | exact hR.all _) only [bO_v, bR_v, bX_l, bX_r, bC_l, bC_r, aLet_v, nI_add, pk_mul, dvI_n, rmI_n, iMax_n, iMin_n, zO_0, zO_1, li_0, li_1, li_2, li_3, li_4, li_5, li_6, li_7, li_8, li_9, li_10, li_12, li_14, li_15, li_16, li_18, li_19, li_20, li_22, li_23, li_24, li_26, li_29, li_30, li_31, li_32, li_36, li_38, li_48, li_50, li_57, li_58, li_59, li_60, li_63, li_97, li_99, li_120, li_122, li_144, li_168, li_194, li_240, li_255, li_284, li_299, li_603, li_999, li_1200, li_1440, li_4095, li_4096, li_6030, li_16384, li_20160]
                exact ih _ _ _ _ (by omega) ⟨rfl, i + 1, hlt, rfl, by rw [Nat.add_assoc], by unfold dut; rw [fb_ct_succ, c1]; rfl⟩
          · obtain rfl : i = n := by omega
            simp (maxSteps := 3000000) (disch := first | assumption | omega | exact hR.all _) only [m_X12_dutyMinutes_L43, bO_v, bR_v, bX_l, bX_r, bC_l, bC_r, aLet_v, nI_add, pk_mul, dvI_n, rmI_n, iMax_n, iMin_n, zO_0, zO_1, li_0, li_1, li_2, li_3, li_4, li_5, li_6, li_7, li_8, li_9, li_10, li_12, li_14, li_15, li_16, li_18, li_19, li_20, li_22, li_23, li_24, li_26, li_29, li_30, li_31, li_32, li_36, li_38, li_48, li_50, li_57, li_58, li_59, li_60, li_63, li_97, li_99, li_120, li_122, li_144, li_168, li_194, li_240, li_255, li_284, li_299, li_603, li_999, li_1200, li_1440, li_4095, li_4096, li_6030, li_16384, li_20160, rz_gi S1, r_p399 S0, r_c399_al S0, z0.c399, nI_ltI]
            rw [if_pos trivial, if_neg (show ¬ T 399 0 + i < T 399 0 + i by omega)]
      · refine ⟨2, 0, by decide, cq_exc ?_ (by decide), fun h1 I1 => ?_⟩
        · simp (maxSteps := 3000000) (disch := first | assumption | omega | exact hR.all _) only [m_L_dutyMinutes, m_X11_dutyMinutes, bO_v, bR_v, bX_l, bX_r, bC_l, bC_r, aJ_v, aLet_v, nI_add, pk_mul, dvI_n, rmI_n, iMax_n, iMin_n, zO_0, zO_1, li_0, li_1, li_2, li_3, li_4, li_5, li_6, li_7, li_8, li_9, li_10, li_12, li_14, li_15, li_16, li_18, li_19, li_20, li_22, li_23, li_24, li_26, li_29, li_30, li_31, li_32, li_36, li_38, li_48, li_50, li_57, li_58, li_59, li_60, li_63, li_97, li_99, li_120, li_122, li_144, li_168, li_194, li_240, li_255, li_284, li_299, li_603, li_999, li_1200, li_1440, li_4095, li_4096, li_6030, li_16384, li_20160, c_cX_gS hS, c_cX_gi hS, c_pmu hS, c_co_as hS, s_cS_gi hS ha, s_cS_gL hS ha, s_cS_pi hS ha, s_cS_pL hS ha, s_cS_gS hS ha, s_clost_al hS ha, s_clost_as hS ha, s_clost_ln hS ha, s_cout_al hS ha, s_cout_as hS ha, s_cout_ln hS ha, s_cpaid_al hS ha, s_cpaid_as hS ha, s_cpaid_ln hS ha, s_ctrust_al hS ha, s_ctrust_as hS ha, s_ctrust_ln hS ha, s_crot_al hS ha, s_crot_as hS ha, s_crot_ln hS ha, s_chands_al hS ha, s_chands_as hS ha, s_chands_ln hS ha, s_cto_al hS ha, s_cto_as hS ha, s_cto_ln hS ha, s_cends_al hS ha, s_cends_as hS ha, s_cends_ln hS ha, s_cret_al hS ha, s_cret_as hS ha, s_cret_ln hS ha, s_ccrew_al hS ha, s_ccrew_as hS ha, s_ccrew_ln hS ha, s_cL_gi hS ha, s_cL_gL hS ha, s_cL_pi hS ha, s_cL_pL hS ha, s_cL_gS hS ha, s_clcosts_al hS ha, s_clcosts_as hS ha, s_clcosts_ln hS ha, s_clcomers_al hS ha, s_clcomers_as hS ha, s_clcomers_ln hS ha, s_clleavers_al hS ha, s_clleavers_as hS ha, s_clleavers_ln hS ha, s_clengs_al hS ha, s_clengs_as hS ha, s_clengs_ln hS ha, s_cltimes_al hS ha, s_cltimes_as hS ha, s_cltimes_ln hS ha, s_clcrews_al hS ha, s_clcrews_as hS ha, s_clcrews_ln hS ha, s_plost hS ha, s_pout hS ha, s_ppaid hS ha, s_ptrust hS ha, s_prot hS ha, s_phands hS ha, s_pto hS ha, s_pends hS ha, s_pret hS ha, s_pcrew hS ha, s_plog hS ha, s_plcosts hS ha, s_plcomers hS ha, s_plleavers hS ha, s_plengs hS ha, s_pltimes hS ha, s_plcrews hS ha, p_cP_gi hS hP, p_cP_gL hS hP, p_cP_pi hS hP, p_cP_pL hS hP, p_cP_gS hS hP, p_cN_gi hS hP, p_cN_gL hS hP, p_cN_pi hS hP, p_cN_pL hS hP, p_cN_gS hS hP, p_cps_ln hS hP, p_ctr_al hS hP, p_ctr_as hS hP, p_ctr_ln hS hP, p_cgs_ln hS hP, p_ces_ln hS hP, p_cks_ln hS hP, p_cable_al hS hP, p_cable_as hS hP, p_cable_ln hS hP, p_pN hS hP, p_pps hS hP, p_ptr hS hP, p_pgs hS hP, p_pes hS hP, p_pks hS hP, p_pable hS hP, p_ep_al hS hP, p_ep_gi hS hP, p_ep_gL hS hP, p_ep_pi hS hP, p_ep_pL hS hP, p_ep_gS hS hP, p_eg_al hS hP, p_eg_gi hS hP, p_eg_gL hS hP, p_eg_pi hS hP, p_eg_pL hS hP, p_eg_gS hS hP, p_egr_p hS hP, p_egr_al hS hP, p_egr_as hS hP, p_egr_ln hS hP, p_ee_al hS hP, p_ee_gi hS hP, p_ee_gL hS hP, p_ee_pi hS hP, p_ee_pL hS hP, p_ee_gS hS hP, p_ees_p hS hP, p_ees_al hS hP, p_ees_as hS hP, p_ees_ln hS hP, p_eed_p hS hP, p_eed_al hS hP, p_eed_as hS hP, p_eed_ln hS hP, p_ek_al hS hP, p_ek_gi hS hP, p_ek_gL hS hP, p_ek_pi hS hP, p_ek_pL hS hP, p_ek_gS hS hP, p_ekg_p hS hP, p_ekg_al hS hP, p_ekg_as hS hP, p_ekg_ln hS hP, p_eke_p hS hP, p_eke_al hS hP, p_eke_as hS hP, p_eke_ln hS hP, g5, I.g3, b2i_0, I.needPerson, I.needPager, I.needEngine, I.needKind, I.needCall, I.needTwo, c, c1, c2]
        · have S1 := I1.sh
          have S0 : Sh (h_si h1 398 0 (nI 2)) := S1.si _ _ _
          refine rq_exc (w := nI 0) ?_ (by decide)
          simp (maxSteps := 3000000) (disch := first | assumption | omega | exact hR.all _) only [m_X12_dutyMinutes, bO_v, bR_v, bX_l, bX_r, bC_l, bC_r, aJ_v, aLet_v, nI_add, pk_mul, dvI_n, rmI_n, iMax_n, iMin_n, zO_0, zO_1, li_0, li_1, li_2, li_3, li_4, li_5, li_6, li_7, li_8, li_9, li_10, li_12, li_14, li_15, li_16, li_18, li_19, li_20, li_22, li_23, li_24, li_26, li_29, li_30, li_31, li_32, li_36, li_38, li_48, li_50, li_57, li_58, li_59, li_60, li_63, li_97, li_99, li_120, li_122, li_144, li_168, li_194, li_240, li_255, li_284, li_299, li_603, li_999, li_1200, li_1440, li_4095, li_4096, li_6030, li_16384, li_20160, r_cM_gS S1, r_cM_pi S1, rz_gi S1, r_p399 S1, r_c399_al S1, r_isPerson S1 I1.z hD, r_isPager S1 I1.z hD, r_isKind S1 I1.z hD, r_isCouple S1 I1.z hD, b2i_0, nI_leI, r_p399 S0, r_c399_al S0, c, r_inD, c1, c2, decide_true, decide_false, Bool.not_false, Bool.true_and, RX h1 2 _ S1 I1.z (Or.inr rfl)]
end
