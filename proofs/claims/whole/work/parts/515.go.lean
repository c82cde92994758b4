/-! one call, of both, in the law's words -/
section
variable {h : aH} {T : Nat → Nat → Nat} {P Q : Nat} {γ : Type}
theorem pi22 (c : ¬ h_sh h 412 = 22) {k : Nat} {x : Int32} {f : aH → Option γ} : bO (pi h 12 412 k x) f = none := by
  unfold pi
  rw [if_neg c]
  rfl
theorem gi22 (c : ¬ h_sh h 412 = 22) {k : Nat} {f : Int32 → Option γ} : bO (gi h 12 412 k) f = none := by
  unfold gi
  rw [if_neg c]
  rfl
theorem gr22 (c : ¬ h_sh h 412 = 22) {k : Nat} {f : Nat → Option γ} : bO (gr h 12 412 k) f = none := by
  unfold gr
  rw [if_neg (fun q => c q.1)]
  rfl
theorem gS22 (c : ¬ h_sh h 412 = 22) {x : Option γ} : gS h 12 412 x = none := if_neg c
theorem in_same {a b d : Int64} {r : Int32} {h1 : aH} (e : m_X12_in a b d h = some (r, h1)) : h1 = h := by
  simp (maxSteps := 3000000) (disch := first | assumption | omega) only [m_X12_in, bO_v, bR_v, bX_l, bX_r, bC_l, bC_r, aJ_v, aLet_v, nI_add, pk_mul, dvI_n, rmI_n, iMax_n, iMin_n, zO_0, zO_1, li_0, li_1, li_2, li_3, li_4, li_5, li_6, li_7, li_8, li_9, li_10, li_12, li_14, li_15, li_16, li_18, li_19, li_20, li_22, li_23, li_24, li_26, li_29, li_30, li_31, li_32, li_36, li_38, li_48, li_50, li_57, li_58, li_59, li_60, li_63, li_97, li_99, li_120, li_122, li_144, li_168, li_194, li_240, li_255, li_284, li_299, li_603, li_999, li_1200, li_1440, li_4095, li_4096, li_6030, li_16384, li_20160, zl0, zl1, zl2, zl3, zl4, ze01, ze02, ze03, ze04, ze10, ze12, ze13, ze14, ze20, ze21, ze23, ze24, ze30, ze31, ze32, ze34, ze40, ze41, ze42, ze43, zt0, zt1, zt2, zt3, zt4, zq0, zq1, zq2, zq3, zq4, it_t, it_f, Bool.true_eq_false, Bool.false_eq_true, na5, na4, na1441, na2, na10, sx_IOIA, sx_IOIS, sx_IONS, sx_IAIO, sx_IAIS, sx_IANS, sx_ISIO, sx_ISIA, sx_ISNS, sx_NSIO, sx_NSIA, sx_NSIS] at e
  split at e
  · injection e with e
    injection e with _ e
    exact e.symm
  · split at e
    · injection e with e
      injection e with _ e
      exact e.symm
    · injection e with e
      injection e with _ e
      exact e.symm
theorem in22 {a b d : Int64} (G : Int32 → aH → Option γ) (hG : ∀ r, G r h = none) : bR (m_X12_in a b d h) G = none := by
  cases hin : m_X12_in a b d h with
  | none => rfl
  | some q =>
    obtain ⟨r, h1⟩ := q
    rw [bR_v, in_same hin]
    exact hG r
theorem no_n {α : Type} {x : Option α} {q : α} (e : x = some q) (n : x = none) : False := by
  rw [n] at e
  cases e
theorem s22_steps {x2 x3 : Int32} {q : Int32 × aH} (e : m_X12_steps 412 x2 x3 h = some q) : h_sh h 412 = 22 := by
  by_cases c : h_sh h 412 = 22
  · exact c
  · refine (no_n e ?_).elim
    unfold m_X12_steps
    exact gS22 c
theorem s22_handOn {x2 x3 x4 : Int32} {q : Int32 × aH} (e : m_X12_handOn 412 x2 x3 x4 h = some q) : h_sh h 412 = 22 := by
  by_cases c : h_sh h 412 = 22
  · exact c
  · refine (no_n e ?_).elim
    unfold m_X12_handOn
    exact gS22 c
theorem s22_giveBack {x2 : Int32} {q : Int32 × aH} (e : m_X12_giveBack 412 x2 h = some q) : h_sh h 412 = 22 := by
  by_cases c : h_sh h 412 = 22
  · exact c
  · refine (no_n e ?_).elim
    unfold m_X12_giveBack
    exact gS22 c
theorem s22_pass {x2 : Int32} {q : Int32 × aH} (e : m_X12_pass 412 x2 h = some q) : h_sh h 412 = 22 := by
  by_cases c : h_sh h 412 = 22
  · exact c
  · refine (no_n e ?_).elim
    unfold m_X12_pass
    refine in22 _ (fun r => ?_)
    simp only [aJ_v]
    split <;> first | exact pi22 c | exact gr22 c
theorem s22_swapPlaces {x2 x3 x4 : Int32} {q : Int32 × aH} (e : m_X12_swapPlaces 412 x2 x3 x4 h = some q) : h_sh h 412 = 22 := by
  by_cases c : h_sh h 412 = 22
  · exact c
  · refine (no_n e ?_).elim
    unfold m_X12_swapPlaces
    exact gS22 c
theorem s22_excuse {x2 x3 : Int32} {q : Int32 × aH} (e : m_X12_excuse 412 x2 x3 h = some q) : h_sh h 412 = 22 := by
  by_cases c : h_sh h 412 = 22
  · exact c
  · refine (no_n e ?_).elim
    unfold m_X12_excuse
    exact gS22 c
theorem s22_setService {x2 x3 : Int32} {q : Int32 × aH} (e : m_X12_setService 412 x2 x3 h = some q) : h_sh h 412 = 22 := by
  by_cases c : h_sh h 412 = 22
  · exact c
  · refine (no_n e ?_).elim
    unfold m_X12_setService
    exact gi22 c
theorem s22_setTrust {x2 x3 x4 : Int32} {q : Int32 × aH} (e : m_X12_setTrust 412 x2 x3 x4 h = some q) : h_sh h 412 = 22 := by
  by_cases c : h_sh h 412 = 22
  · exact c
  · refine (no_n e ?_).elim
    unfold m_X12_setTrust
    exact gS22 c
theorem s22_undo {q : Int32 × aH} (e : m_X12_undo 412  h = some q) : h_sh h 412 = 22 := by
  by_cases c : h_sh h 412 = 22
  · exact c
  · refine (no_n e ?_).elim
    unfold m_X12_undo
    exact gi22 c
theorem s22_save {x2 : Int32} {q : Unit × aH} (e : m_X12_save 412 x2 h = some q) : h_sh h 412 = 22 := by
  by_cases c : h_sh h 412 = 22
  · exact c
  · refine (no_n e ?_).elim
    unfold m_X12_save
    refine in22 _ (fun r => ?_)
    simp only [aJ_v]
    split <;> first | exact pi22 c | exact gr22 c
theorem s22_restore {x2 : Int32} {q : Unit × aH} (e : m_X12_restore 412 x2 h = some q) : h_sh h 412 = 22 := by
  by_cases c : h_sh h 412 = 22
  · exact c
  · refine (no_n e ?_).elim
    unfold m_X12_restore
    refine in22 _ (fun r => ?_)
    simp only [aJ_v]
    split <;> first | exact pi22 c | exact gr22 c
theorem s22_helpfulPager {x2 : Int32} {q : Int32 × aH} (e : m_X12_helpfulPager 412 x2 h = some q) : h_sh h 412 = 22 := by
  by_cases c : h_sh h 412 = 22
  · exact c
  · refine (no_n e ?_).elim
    unfold m_X12_helpfulPager
    exact gS22 c
theorem s22_helpfulPerson {x2 : Int32} {q : Int32 × aH} (e : m_X12_helpfulPerson 412 x2 h = some q) : h_sh h 412 = 22 := by
  by_cases c : h_sh h 412 = 22
  · exact c
  · refine (no_n e ?_).elim
    unfold m_X12_helpfulPerson
    exact gS22 c
theorem s22_call {x2 : Int32} {q : Int32 × aH} (e : m_X12_call 412 x2 h = some q) : h_sh h 412 = 22 := by
  by_cases c : h_sh h 412 = 22
  · exact c
  · refine (no_n e ?_).elim
    unfold m_X12_call
    exact gS22 c
theorem s22_load {q : Int32 × aH} (e : m_X12_load 412  h = some q) : h_sh h 412 = 22 := by
  by_cases c : h_sh h 412 = 22
  · exact c
  · refine (no_n e ?_).elim
    unfold m_X12_load
    exact pi22 c
theorem s22_append {x2 x3 x4 x5 x6 : Int32} {q : Int32 × aH} (e : m_X12_append 412 x2 x3 x4 x5 x6 h = some q) : h_sh h 412 = 22 := by
  by_cases c : h_sh h 412 = 22
  · exact c
  · refine (no_n e ?_).elim
    unfold m_X12_append
    exact gi22 c
theorem s22_truncate {x2 : Int32} {q : Int32 × aH} (e : m_X12_truncate 412 x2 h = some q) : h_sh h 412 = 22 := by
  by_cases c : h_sh h 412 = 22
  · exact c
  · refine (no_n e ?_).elim
    unfold m_X12_truncate
    exact gi22 c
theorem s22_find {x2 : Int32} {q : Int32 × aH} (e : m_X12_find 412 x2 h = some q) : h_sh h 412 = 22 := by
  by_cases c : h_sh h 412 = 22
  · exact c
  · refine (no_n e ?_).elim
    unfold m_X12_find
    refine in22 _ (fun r => ?_)
    simp only [aJ_v]
    split <;> first | exact pi22 c | exact gr22 c
/-- one call, of both, and the reference stands in between -/
def QH (h : aH) (x : Option (Int32 × aH)) (y : aH → Option (Int32 × aH)) : Prop := ∃ k v, k < 5 ∧ OK x (fun r h1 => r = nI k ∧ h_sh h1 412 = 22 ∧ (k = 0 → h_lv h1 462 0 = v.toInt64) ∧ OK (y h1) (fun b h2 => (k = 0 → b = v) ∧ h_iv h2 412 0 = nI k ∧ h_lv h2 462 0 = h_lv h1 462 0 ∧ XI h2 (h_nx h + 2) (h_sl h + 24)))
theorem QG.qh {x : Option (Int32 × aH)} {y : aH → Option (Int32 × aH)} (q : QG h x y) (hy : ∀ h1 q, y h1 = some q → h_sh h1 412 = 22) : QH h x y := by
  obtain ⟨k, v, hk, r, h1, e1, q1, q2, b, h2, e2, q3⟩ := q
  exact ⟨k, v, hk, r, h1, e1, q1, hy _ _ e2, q2, b, h2, e2, q3⟩
theorem QQ.qh {x : Option (Int32 × aH)} {y : aH → Option (Int32 × aH)} (q : QQ h T P Q x y) (I : IV h T P Q) : QH h x y := by
  obtain ⟨k, v, hk, ⟨r, h1, e1, q1, q2, q3⟩, hr⟩ := q
  have I1 := I.go q2
  obtain ⟨b, h2, e2, q4, q5, q6, q7⟩ := hr h1 I1
  refine ⟨k, v, hk, r, h1, e1, q1, (r_cM I1.sh), q3, b, h2, e2, q7, q6, by rw [q5], ⟨T, P, Q, I1.go q4⟩, ?_, ?_⟩
  · have := q4.2.1
    have := q2.2.1
    omega
  · have := q4.2.2.1
    have := q2.2.2.1
    omega
theorem gS_22 (c : h_sh h 412 = 22) {x : Option γ} : gS h 12 412 x = x := if_pos c
theorem sw_go {x : Int32} {v : Int} {A C : Option γ} (Z : Option γ → Prop) (hA : Z A) (hC : Z C) : Z (swO x v A C) := by
  unfold swO
  split
  · exact hA
  · exact hC
theorem thrown_v (x : ∃ T P Q, IV h T P Q) : m_X12_thrown 412 h = some (h_iv h 412 0, h) := by
  obtain ⟨T, P, Q, I⟩ := x
  simp (maxSteps := 3000000) (disch := first | assumption | omega) only [m_X12_thrown, bO_v, bR_v, bX_l, bX_r, bC_l, bC_r, aJ_v, aLet_v, nI_add, pk_mul, dvI_n, rmI_n, iMax_n, iMin_n, zO_0, zO_1, li_0, li_1, li_2, li_3, li_4, li_5, li_6, li_7, li_8, li_9, li_10, li_12, li_14, li_15, li_16, li_18, li_19, li_20, li_22, li_23, li_24, li_26, li_29, li_30, li_31, li_32, li_36, li_38, li_48, li_50, li_57, li_58, li_59, li_60, li_63, li_97, li_99, li_120, li_122, li_144, li_168, li_194, li_240, li_255, li_284, li_299, li_603, li_999, li_1200, li_1440, li_4095, li_4096, li_6030, li_16384, li_20160, zl0, zl1, zl2, zl3, zl4, ze01, ze02, ze03, ze04, ze10, ze12, ze13, ze14, ze20, ze21, ze23, ze24, ze30, ze31, ze32, ze34, ze40, ze41, ze42, ze43, zt0, zt1, zt2, zt3, zt4, zq0, zq1, zq2, zq3, zq4, it_t, it_f, Bool.true_eq_false, Bool.false_eq_true, na5, na4, na1441, na2, na10, sx_IOIA, sx_IOIS, sx_IONS, sx_IAIO, sx_IAIS, sx_IANS, sx_ISIO, sx_ISIA, sx_ISNS, sx_NSIO, sx_NSIA, sx_NSIS, r_cM_gi I.sh]
theorem qh_go {x : Option (Int32 × aH)} {y : aH → Option (Int32 × aH)} (q : QH h x y) (Z : Option (Int32 × aH) → Prop) {kk k1 k2 : aH → Option (Int32 × aH)} (ok : ∀ h2, XI h2 (h_nx h + 2) (h_sl h + 24) → Z (kk h2)) :
    Z (bR x fun a h1 => gS h1 12 412 <| bR (y h1) fun b h2 => gS h2 12 412 <| bR (m_X12_thrown 412 h2) fun c h3 => if c = a then aJ (fun (h4 : aH) => kk h4) fun k9 => if a = 0 then bO (alL h3 462 (0 : Int32)) fun d => if (lg_cmp d (b.toInt64)) = 0 then k9 h3 else k1 h3 else k9 h3 else k2 h3) := by
  obtain ⟨k, v, hk, r, h1, e1, q1, q2, q3, b, h2, e2, q4, q5, q6, xi⟩ := q
  have S2 : Sh h2 := by
    obtain ⟨⟨T, P, Q, I⟩, -⟩ := xi
    exact I.sh
  rw [e1, bR_v, gS_22 q2, e2, bR_v, gS_22 (r_cM S2), thrown_v xi.1, bR_v, if_pos (q5.trans q1.symm), aJ_v, q1]
  by_cases c : k = 0
  · subst c
    have al : alL h2 462 (0 : Int32) = some (h_lv h2 462 0) := c_co_al S2 (n := 0) (by omega)
    rw [if_pos (show nI 0 = (0 : Int32) from rfl), al, bO_v, if_pos (lgc_eq.mpr (by rw [q6, q3 rfl, q4 rfl]))]
    exact ok _ xi
  · rw [if_neg (fun e => c ?_)]
    · exact ok _ xi
    · have e2 : nI k = nI 0 := e
      rw [nI_eq (by omega) (by omega)] at e2
      exact e2
/-- of truths -/
theorem qb_go {x : Option (Int32 × aH)} {y : aH → Option (Int32 × aH)} (q : QH h x y) (tr : ∀ r h1, x = some (r, h1) → r = 0 → h_lv h1 462 0 = 0 ∨ h_lv h1 462 0 = 1) (Z : Option (Int32 × aH) → Prop) {kk k1 k2 : aH → Option (Int32 × aH)} (ok : ∀ h2, XI h2 (h_nx h + 2) (h_sl h + 24) → Z (kk h2)) :
    Z (bR x fun a h1 => gS h1 12 412 <| bR (y h1) fun b h2 => gS h2 12 412 <| bR (m_X12_thrown 412 h2) fun c h3 => if c = a then aJ (fun (h4 : aH) => kk h4) fun k9 => if a = 0 then bO (alL h3 462 (0 : Int32)) fun d => aJ (fun (w : Int64) (h5 : aH) => if (lg_cmp d w) = 0 then k9 h5 else k1 h5) fun k8 => if b = 0 then k8 (0 : Int64) h3 else k8 (1 : Int64) h3 else k9 h3 else k2 h3) := by
  obtain ⟨k, v, hk, r, h1, e1, q1, q2, q3, b, h2, e2, q4, q5, q6, xi⟩ := q
  have tr1 := tr _ _ e1
  have S2 : Sh h2 := by
    obtain ⟨⟨T, P, Q, I⟩, -⟩ := xi
    exact I.sh
  rw [e1, bR_v, gS_22 q2, e2, bR_v, gS_22 (r_cM S2), thrown_v xi.1, bR_v, if_pos (q5.trans q1.symm), aJ_v, q1]
  by_cases c : k = 0
  · subst c
    have al : alL h2 462 (0 : Int32) = some (h_lv h2 462 0) := c_co_al S2 (n := 0) (by omega)
    have l2 : h_lv h2 462 0 = v.toInt64 := q6.trans (q3 rfl)
    have b2 : b = v := q4 rfl
    rw [if_pos (show nI 0 = (0 : Int32) from rfl), al, bO_v, aJ_v]
    have inj : ∀ u : Int32, v.toInt64 = u.toInt64 → v = u := fun u e => by
      have := congrArg Int64.toInt e
      rw [Int32.toInt_toInt64, Int32.toInt_toInt64] at this
      exact Int32.toInt_inj.mp this
    rcases tr1 q1 with t | t
    · have v0 : v = 0 := inj 0 ((q3 rfl).symm.trans t)
      rw [if_pos (b2.trans v0)]
      dsimp only
      rw [if_pos (lgc_eq.mpr (q6.trans t))]
      exact ok _ xi
    · have v1 : v = 1 := inj 1 ((q3 rfl).symm.trans t)
      rw [if_neg (by rw [b2, v1]; decide)]
      dsimp only
      rw [if_pos (lgc_eq.mpr (q6.trans t))]
      exact ok _ xi
  · rw [if_neg (fun e => c ?_)]
    · exact ok _ xi
    · have e2 : nI k = nI 0 := e
      rw [nI_eq (by omega) (by omega)] at e2
      exact e2
theorem b01 {x : Option ((Int32 ⊕ String) × aH)} {r : Int32} {h1 : aH} (e : (bC x (fun x4 h1 => aJ (fun (x6 : Int64) (h3 : aH) => bO (asL h3 462 (0 : Int32) x6) fun h4 => some ((0 : Int32), h4)) fun k15 => if x4 = 0 then k15 (0 : Int64) h1 else k15 (1 : Int64) h1) fun X4 h2 => if X4 = "java/lang/IndexOutOfBoundsException" then some ((1 : Int32), h2) else none) = some (r, h1)) (hr : r = 0) : h_lv h1 462 0 = 0 ∨ h_lv h1 462 0 = 1 := by
  have put : ∀ (g : aH) (w : Int64), (bO (asL g 462 (0 : Int32) w) fun h4 => some ((0 : Int32), h4)) = some (r, h1) → h_lv h1 462 0 = w := fun g w e => by
    unfold asL at e
    split at e
    · rw [bO_v] at e
      injection e with e
      injection e with _ e
      rw [← e]
      exact sL_at
    · cases e
  cases x with
  | none => cases e
  | some q =>
    obtain ⟨a, g⟩ := q
    cases a with
    | inl v =>
      rw [bC_l, aJ_v] at e
      split at e
      · exact Or.inl (put _ _ e)
      · exact Or.inr (put _ _ e)
    | inr X =>
      rw [bC_r] at e
      split at e
      · injection e with e
        injection e with e _
        rw [hr] at e
        exact absurd e (by decide)
      · cases e
theorem qs_go {x : Option (Int32 × aH)} {y : aH → Option (Unit × aH)} (q : QS h x y) (hy : ∀ h1 q, y h1 = some q → h_sh h1 412 = 22) (Z : Option (Int32 × aH) → Prop) {kk k2 : aH → Option (Int32 × aH)} (ok : ∀ h2, XI h2 (h_nx h + 2) (h_sl h + 24) → Z (kk h2)) :
    Z (bR x fun a h1 => gS h1 12 412 <| bR (y h1) fun _ h2 => gS h2 12 412 <| bR (m_X12_thrown 412 h2) fun c h3 => if c = a then kk h3 else k2 h3) := by
  obtain ⟨k, hk, r, h1, e1, q1, b, h2, e2, q5, xi⟩ := q
  have S2 : Sh h2 := by
    obtain ⟨⟨T, P, Q, I⟩, -⟩ := xi
    exact I.sh
  rw [e1, bR_v, gS_22 (hy _ _ e2), e2, bR_v, gS_22 (r_cM S2), thrown_v xi.1, bR_v, if_pos (q5.trans q1.symm)]
  exact ok _ xi
theorem qd_go {x : Option (Int32 × aH)} {y : aH → Option (Int32 × aH)} (q : QD h T P Q x y) (I : IV h T P Q) (Z : Option (Int32 × aH) → Prop) {kk k2 : aH → Option (Int32 × aH)} (ok : ∀ h2, XI h2 (h_nx h + 2) (h_sl h + 24) → Z (kk h2)) :
    Z (gS h 11 1 <| bR x fun a h1 => gS h1 12 412 <| bR (y h1) fun b h2 => if a = b then kk h2 else k2 h2) := by
  obtain ⟨v, ⟨r, h1, e1, q1, q2⟩, hr⟩ := q
  have I1 := I.go q2
  obtain ⟨b, h2, e2, q4, q5⟩ := hr h1 q2 I1
  have g1 : gS h 11 1 (bR x fun a h1 => gS h1 12 412 <| bR (y h1) fun b h2 => if a = b then kk h2 else k2 h2) = (bR x fun a h1 => gS h1 12 412 <| bR (y h1) fun b h2 => if a = b then kk h2 else k2 h2) := if_pos (c_cX I.sh)
  rw [g1, e1, bR_v, gS_22 (r_cM I1.sh), e2, bR_v, if_pos (q1.trans q4.symm)]
  refine ok _ ⟨⟨T, P, Q, I1.go q5⟩, ?_, ?_⟩
  · have := q5.2.1
    have := q2.2.1
    omega
  · have := q5.2.2.1
    have := q2.2.2.1
    omega
theorem sc_ok {cs : List Int32} {j : Nat} (h1 : j < cs.length) (h2 : cs.length ≤ 3072) : scI cs (nI j) = some (cs.getD j 0) := by
  unfold scI
  rw [nI_toInt (by omega), nI_clamp (by omega), if_pos ⟨by omega, by omega⟩]
end
