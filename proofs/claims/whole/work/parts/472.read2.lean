/-! the class's reader: what must stand next -/
/-- what the whole reading may change -/
def KX (Q : Nat) (h h1 : aH) : Prop := h_nx h1 = h_nx h ∧ h_sl h1 = h_sl h ∧ h_sh h1 = h_sh h ∧ h_ln h1 = h_ln h ∧ (∀ o k, ¬ (o = 3 ∨ (Q ≤ o ∧ o < Q + 65)) → h_iv h1 o k = h_iv h o k) ∧ (∀ o k, ¬ (o = 3 ∧ k = 2) → h_rv h1 o k = h_rv h o k) ∧ ∀ o k, ¬ (o = 3 ∨ (Q ≤ o ∧ o < Q + 65)) → h_lv h1 o k = h_lv h o k
theorem KX.trans {Q : Nat} {h h1 h2 : aH} (x : KX Q h h1) (y : KX Q h1 h2) : KX Q h h2 := by
  obtain ⟨x1, x2, x3, x4, x5, x6, x7⟩ := x
  obtain ⟨y1, y2, y3, y4, y5, y6, y7⟩ := y
  exact ⟨y1.trans x1, y2.trans x2, y3.trans x3, y4.trans x4, fun o k q => (y5 o k q).trans (x5 o k q), fun o k q => (y6 o k q).trans (x6 o k q), fun o k q => (y7 o k q).trans (x7 o k q)⟩
theorem KX.fx {Q : Nat} {A : Nat → Nat → Prop} {h h1 : aH} (x : Fx A h h1) (hA : ∀ o k, A o k → o = 3 ∨ (Q ≤ o ∧ o < Q + 65)) : KX Q h h1 := by
  obtain ⟨x1, x2, x3, x4, x5, x6, x7⟩ := x
  exact ⟨x1, x2, x3, x4, fun o k q => x7 o k (fun r => q (hA o k r)), fun o k _ => by rw [x5], fun o k _ => by rw [x6]⟩
theorem KX.sh {Q : Nat} {h h1 : aH} (x : KX Q h h1) (hS : Sh h) : Sh h1 := by
  obtain ⟨x1, x2, x3, x4, x5, x6, x7⟩ := x
  refine ⟨by rw [x1]; exact hS.1, fun q hq => by rw [x3, x4]; exact hS.2.1 q hq, fun q hq => ?_⟩
  have hne : ∀ q ∈ ptL, ¬ (q.1 = 3 ∧ q.2.1 = 2) := by decide +kernel
  rw [x6 _ _ (hne q hq)]
  exact hS.2.2 q hq
theorem TX.kx {tx : Nat → Nat} {n Q : Nat} {h h1 : aH} (X : TX tx n h) (x : KX Q h h1) (hQ : Q ∈ plL) : TX tx n h1 := by
  have := pl_in Q hQ
  exact ⟨X.1, fun k hk => ⟨(X.2 k hk).1, by rw [x.2.2.2.2.1 2 k (by omega)]; exact (X.2 k hk).2⟩⟩
/-- the reader looks at s -/
def CS (tx : Nat → Nat) (n Q : Nat) (h0 h : aH) (s : Nat) : Prop := Sh h ∧ KX Q h0 h ∧ h_rv h 3 2 = Q ∧ h_iv h 3 1 = nI n ∧ LKd tx n h s ∧ s ≤ n ∧ skp tx n s = s ∧ h_iv h 3 9 = h_iv h0 3 9 ∧ h_iv h 3 10 = h_iv h0 3 10
/-- it failed -/
def CE (Q : Nat) (h0 h : aH) (e : ER) : Prop := Sh h ∧ KX Q h0 h ∧ h_iv h 3 9 = nI e.1 ∧ h_iv h 3 10 = nI e.2
def CP {α : Type} (Q : Nat) (h0 : aH) (x : Option (Int32 × aH)) (sp : ER ⊕ α) (K : α → aH → Prop) : Prop := OK x (fun r h1 => match sp with
  | .inl e => r = nI 0 ∧ CE Q h0 h1 e
  | .inr a => r = nI 1 ∧ K a h1)
/-- only the reader's own cells were written -/
def RF (h h1 : aH) : Prop := h_nx h1 = h_nx h ∧ h_sl h1 = h_sl h ∧ h_sh h1 = h_sh h ∧ h_ln h1 = h_ln h ∧ h_rv h1 = h_rv h ∧ (∀ o k, o ≠ 3 → h_iv h1 o k = h_iv h o k) ∧ ∀ o k, o ≠ 3 → h_lv h1 o k = h_lv h o k
theorem RF.rf {h : aH} : RF h h := ⟨rfl, rfl, rfl, rfl, rfl, fun _ _ _ => rfl, fun _ _ _ => rfl⟩
theorem RF.trans {h h1 h2 : aH} (x : RF h h1) (y : RF h1 h2) : RF h h2 := by
  obtain ⟨x1, x2, x3, x4, x5, x6, x7⟩ := x
  obtain ⟨y1, y2, y3, y4, y5, y6, y7⟩ := y
  exact ⟨y1.trans x1, y2.trans x2, y3.trans x3, y4.trans x4, y5.trans x5, fun o k q => (y6 o k q).trans (x6 o k q), fun o k q => (y7 o k q).trans (x7 o k q)⟩
theorem RF.fx {A : Nat → Nat → Prop} {h h1 : aH} (x : Fx A h h1) (hA : ∀ o k, A o k → o = 3) : RF h h1 := by
  obtain ⟨x1, x2, x3, x4, x5, x6, x7⟩ := x
  exact ⟨x1, x2, x3, x4, x5, fun o k q => x7 o k (fun r => q (hA o k r)), fun o k _ => by rw [x6]⟩
theorem RF.kx {Q : Nat} {h h1 : aH} (x : RF h h1) : KX Q h h1 := by
  obtain ⟨x1, x2, x3, x4, x5, x6, x7⟩ := x
  exact ⟨x1, x2, x3, x4, fun o k q => x6 o k (by omega), fun o k _ => by rw [x5], fun o k q => x7 o k (by omega)⟩
theorem sb_cp {α β : Type} {Q : Nat} {h0 : aH} {x : Option (Int32 × aH)} {f : aH → Option (Int32 × aH)} {sp : ER ⊕ α} {g : α → ER ⊕ β} {K : α → aH → Prop} {K2 : β → aH → Prop} (hx : CP Q h0 x sp K) (hf : ∀ a h1, sp = .inr a → K a h1 → CP Q h0 (f h1) (g a) K2) : CP Q h0 (bR x fun r h1 => if r = nI 0 then some (nI 0, h1) else f h1) (sb sp g) K2 := by
  obtain ⟨r, h1, e1, hh⟩ := hx
  rw [e1, bR_v]
  cases sp with
  | inl e =>
    obtain ⟨rfl, q⟩ := hh
    rw [if_pos rfl]
    exact ⟨_, _, rfl, rfl, q⟩
  | inr a =>
    obtain ⟨rfl, q⟩ := hh
    rw [if_neg (by decide)]
    exact hf a h1 rfl q
theorem cp_inl {α : Type} {Q : Nat} {h0 h : aH} {e : ER} {sp : ER ⊕ α} {K : α → aH → Prop} (hs : sp = .inl e) (q : CE Q h0 h e) : CP Q h0 (some (nI 0, h)) sp K := by
  rw [hs]
  exact ⟨_, _, rfl, rfl, q⟩
theorem cp_inr {α : Type} {Q : Nat} {h0 h : aH} {a : α} {sp : ER ⊕ α} {K : α → aH → Prop} (hs : sp = .inr a) (q : K a h) : CP Q h0 (some (nI 1, h)) sp K := by
  rw [hs]
  exact ⟨_, _, rfl, rfl, q⟩
section
variable {h h0 : aH} {tx : Nat → Nat} {n Q s : Nat}
theorem CS.g2 (C : CS tx n Q h0 h s) (hQ : Q ∈ plL) : gr h 9 3 2 = some Q := gr_ok9 (c_cR C.1) C.2.2.1 (pl_ne0 Q hQ)
theorem CS.rf (C : CS tx n Q h0 h s) {h1 : aH} (x : RF h h1) (e1 : h_iv h1 3 1 = h_iv h 3 1 ∧ h_iv h1 3 9 = h_iv h 3 9 ∧ h_iv h1 3 10 = h_iv h 3 10) {s' : Nat} (l : LKd tx n h1 s') (hs : s' ≤ n) (hk : skp tx n s' = s') : CS tx n Q h0 h1 s' := by
  obtain ⟨c1, c2, c3, c4, c5, c6, c7⟩ := C
  have k : KX Q h h1 := x.kx
  exact ⟨k.sh c1, c2.trans k, by rw [x.2.2.2.2.1]; exact c3, by rw [e1.1]; exact c4, l, hs, hk, by rw [e1.2.1]; exact c7.2.1, by rw [e1.2.2]; exact c7.2.2⟩
theorem k_takeC (X : TX tx n h0) (hQ : Q ∈ plL) (C : CS tx n Q h0 h s) (hs : s < n) : OK (m_X9_take 3 h) (fun _ h1 => CS tx n Q h0 h1 (adv tx n s) ∧ RF h h1 ∧ h_iv h1 3 6 = nI s ∧ h_iv h1 3 7 = h_iv h 3 7 ∧ h_lv h1 = h_lv h) := by
  have C0 := C
  obtain ⟨c1, c2, c3, c4, ⟨l3, l4, l5⟩, c6, c7⟩ := C
  have l := nxt_gt (tx := tx) hs
  obtain ⟨_, h1, e1, F1, L1, g6⟩ := k_take c1 (X.kx c2 hQ) c4 l5 l4 l.2
  have R : RF h h1 := RF.fx F1 (fun o k q => q.1)
  have a := adv_gt (tx := tx) hs
  exact ⟨_, h1, e1, C0.rf R ⟨F1.iv (by unfold TKx; omega), F1.iv (by unfold TKx; omega), F1.iv (by unfold TKx; omega)⟩ L1 a.2.1 a.2.2, R, g6, F1.iv (by unfold TKx; omega), F1.2.2.2.2.2.1⟩
theorem k_failsAt (c1 : Sh h) (c2 : KX Q h0 h) {c p : Nat} : ∃ h1, m_X9_failsAt 3 (nI c) (nI p) h = some (nI 0, h1) ∧ CE Q h0 h1 (c, p) ∧ RF h h1 := by
  have S1 : Sh (h_si h 3 9 (nI c)) := c1.si _ _ _
  have F : Fx (fun o _ => o = 3) h (h_si (h_si h 3 9 (nI c)) 3 10 (nI p)) := (Fx.si (A := fun o _ => o = 3) rfl).trans (Fx.si (A := fun o _ => o = 3) rfl)
  have R := RF.fx F (fun o k q => q)
  refine ⟨_, ?_, ⟨F.sh c1, c2.trans R.kx, ?_, si_at⟩, R⟩
  · simp (maxSteps := 3000000) (disch := first | assumption | omega) only [m_X9_failsAt, bO_v, bR_v, bX_l, bX_r, bC_l, bC_r, aLet_v, nI_add, pk_mul, dvI_n, rmI_n, iMax_n, iMin_n, zO_0, zO_1, li_0, li_1, li_2, li_3, li_4, li_5, li_6, li_7, li_8, li_9, li_10, li_12, li_14, li_15, li_16, li_18, li_19, li_20, li_22, li_23, li_24, li_26, li_29, li_30, li_31, li_32, li_36, li_38, li_48, li_50, li_57, li_58, li_59, li_60, li_63, li_97, li_99, li_120, li_122, li_144, li_168, li_194, li_240, li_255, li_284, li_299, li_603, li_999, li_1200, li_1440, li_4095, li_4096, li_6030, li_16384, li_20160, zl0, zl1, zl2, zl3, zl4, ze01, ze02, ze03, ze04, ze10, ze12, ze13, ze14, ze20, ze21, ze23, ze24, ze30, ze31, ze32, ze34, ze40, ze41, ze42, ze43, zt0, zt1, zt2, zt3, zt4, zq0, zq1, zq2, zq3, zq4, it_t, it_f, Bool.true_eq_false, Bool.false_eq_true, na5, na4, na1441, na2, na10, sx_IOIA, sx_IOIS, sx_IONS, sx_IAIO, sx_IAIS, sx_IANS, sx_ISIO, sx_ISIA, sx_ISNS, sx_NSIO, sx_NSIA, sx_NSIS, c_cR_pi c1, c_cR_pi S1]
    try rfl
  · show h_iv (h_si (h_si h 3 9 (nI c)) 3 10 (nI p)) 3 9 = nI c
    rw [si_ne (by omega), si_at]
theorem k_fails (C : CS tx n Q h0 h s) {c : Nat} : ∃ h1, m_X9_fails 3 (nI c) h = some (nI 0, h1) ∧ CE Q h0 h1 (c, s) ∧ RF h h1 := by
  obtain ⟨c1, c2, c3, c4, ⟨l3, l4, l5⟩, c6, c7⟩ := C
  obtain ⟨h1, e1, q, r⟩ := k_failsAt c1 c2 (c := c) (p := s)
  refine ⟨h1, ?_, q, r⟩
  simp (maxSteps := 3000000) (disch := first | assumption | omega) only [m_X9_fails, bO_v, bR_v, bX_l, bX_r, bC_l, bC_r, aLet_v, nI_add, pk_mul, dvI_n, rmI_n, iMax_n, iMin_n, zO_0, zO_1, li_0, li_1, li_2, li_3, li_4, li_5, li_6, li_7, li_8, li_9, li_10, li_12, li_14, li_15, li_16, li_18, li_19, li_20, li_22, li_23, li_24, li_26, li_29, li_30, li_31, li_32, li_36, li_38, li_48, li_50, li_57, li_58, li_59, li_60, li_63, li_97, li_99, li_120, li_122, li_144, li_168, li_194, li_240, li_255, li_284, li_299, li_603, li_999, li_1200, li_1440, li_4095, li_4096, li_6030, li_16384, li_20160, zl0, zl1, zl2, zl3, zl4, ze01, ze02, ze03, ze04, ze10, ze12, ze13, ze14, ze20, ze21, ze23, ze24, ze30, ze31, ze32, ze34, ze40, ze41, ze42, ze43, zt0, zt1, zt2, zt3, zt4, zq0, zq1, zq2, zq3, zq4, it_t, it_f, Bool.true_eq_false, Bool.false_eq_true, na5, na4, na1441, na2, na10, sx_IOIA, sx_IOIS, sx_IONS, sx_IAIO, sx_IAIS, sx_IANS, sx_ISIO, sx_ISIA, sx_ISNS, sx_NSIO, sx_NSIA, sx_NSIS, c_cR_gi c1, l4, c_cR_gS c1, e1]
/-- the words that the reader knows -/
def wl (i k : Nat) : Nat := ((rdb i).getD k 0).toNatClampNeg
def wcode (i : Nat) : Nat := enc 27 (fun k => wl i k - 96) (rdb i).length
theorem wl_f : ∀ i, i < 11 → (rdb i).length ≤ 8 ∧ 1 ≤ (rdb i).length ∧ ∀ k, k < (rdb i).length → (rdb i).getD k 0 = nI (wl i k) ∧ 97 ≤ wl i k ∧ wl i k ≤ 122 := by decide +kernel
theorem k_isWord (X : TX tx n h0) (hQ : Q ∈ plL) (C : CS tx n Q h0 h s) {i : Nat} (hi : i < 11) : m_X9_isWord 3 i h = some (b2i (isWd tx n s (wcode i)), h) := by
  obtain ⟨c1, c2, c3, c4, ⟨l3, l4, l5⟩, c6, c7⟩ := C
  obtain ⟨w8, w1, wf⟩ := wl_f i hi
  have t6 := tok_lt6 (tx := tx) (n := n) (s := s)
  have X2 := X.kx c2 hQ
  have nl := nxt_le (tx := tx) c6
  have sub : nI (nxt tx n s) - nI s = nI (nxt tx n s - s) := pk_sub nl.1
  have ln : m_J0_length_8abf5 i h = some (nI (rdb i).length, h) := if_pos hi
  have gt : ∀ {γ : Type} (z : Option γ), gT i z = z := fun z => if_pos hi
  have x1 := X.1
  simp (maxSteps := 3000000) (disch := first | assumption | omega) only [m_X9_isWord, bO_v, bR_v, bX_l, bX_r, bC_l, bC_r, aLet_v, nI_add, pk_mul, dvI_n, rmI_n, iMax_n, iMin_n, zO_0, zO_1, li_0, li_1, li_2, li_3, li_4, li_5, li_6, li_7, li_8, li_9, li_10, li_12, li_14, li_15, li_16, li_18, li_19, li_20, li_22, li_23, li_24, li_26, li_29, li_30, li_31, li_32, li_36, li_38, li_48, li_50, li_57, li_58, li_59, li_60, li_63, li_97, li_99, li_120, li_122, li_144, li_168, li_194, li_240, li_255, li_284, li_299, li_603, li_999, li_1200, li_1440, li_4095, li_4096, li_6030, li_16384, li_20160, zl0, zl1, zl2, zl3, zl4, ze01, ze02, ze03, ze04, ze10, ze12, ze13, ze14, ze20, ze21, ze23, ze24, ze30, ze31, ze32, ze34, ze40, ze41, ze42, ze43, zt0, zt1, zt2, zt3, zt4, zq0, zq1, zq2, zq3, zq4, it_t, it_f, Bool.true_eq_false, Bool.false_eq_true, na5, na4, na1441, na2, na10, sx_IOIA, sx_IOIS, sx_IONS, sx_IAIO, sx_IAIS, sx_IANS, sx_ISIO, sx_ISIA, sx_ISNS, sx_NSIO, sx_NSIA, sx_NSIS, c_cR_gi c1, l3, l4, l5, sub, ln, gt, nI_eq, aJ_v]
  by_cases t1 : tok tx n s = 1
  · obtain ⟨s1, s2⟩ := tok1.mp t1
    have en := nxt1 t1
    have we : nxt tx n s - s = wle tx n s := by omega
    have wl1 : wle tx n s ≤ n - s := run_le
    rw [if_pos t1, we]
    have f1 : ∀ k, k < wle tx n s → 1 ≤ wd tx s k ∧ wd tx s k ≤ 26 := fun k hk => wd_in hk
    have f2 : ∀ k, k < (rdb i).length → 1 ≤ wl i k - 96 ∧ wl i k - 96 ≤ 26 := fun k hk => by have := wf k hk; omega
    by_cases cl : wle tx n s = (rdb i).length
    · rw [if_pos cl]
      have ei : isWd tx n s (wcode i) = decide (∀ k, k < (rdb i).length → tx (s + k) = wl i k) := by
        unfold isWd nmd
        rw [decide_eq_true (show tok tx n s = 1 ∧ wle tx n s ≤ 8 by omega), Bool.true_and]
        refine decide_eq_decide.mpr ⟨fun e k hk => ?_, fun e => ?_⟩
        · have := (enc_inj (Nat.le_refl 27) f1 f2 e).2 k (by omega)
          have a := f1 k (by omega)
          have b := wf k hk
          unfold wd at this a
          omega
        · show enc 27 (wd tx s) (wle tx n s) = enc 27 (fun k => wl i k - 96) (rdb i).length
          rw [cl]
          exact enc_cong (fun k hk => by unfold wd; rw [e k hk])
      rw [ei]
      refine aL1_run (R := fun o => o = some (b2i (decide (∀ k, k < (rdb i).length → tx (s + k) = wl i k)), h)) (fun m s1 g => g = h ∧ ∃ j, j ≤ (rdb i).length ∧ m = (rdb i).length - j ∧ s1 = nI j ∧ ∀ k, k < j → tx (s + k) = wl i k) ⟨rfl, 0, Nat.zero_le _, rfl, rfl, fun k hk => absurd hk (Nat.not_lt_zero k)⟩ (by omega) ?_
      rintro rec m s1 g ⟨rfl, j, hj, rfl, rfl, no⟩ ih
      by_cases hlt : j < (rdb i).length
      · obtain ⟨c9, tb⟩ := X2.2 (s + j) (by omega)
        obtain ⟨v1, v2, v3⟩ := wf j hlt
        have ch : m_J0_charAt_5068e i (nI j) g = some (nI (wl i j), g) := by
          unfold m_J0_charAt_5068e
          rw [if_pos ⟨hi, by rw [nI_toInt (by omega)]; omega, by rw [nI_toInt (by omega)]; omega⟩, nI_clamp (by omega), v1]
        have tb2 : h_iv g 2 (s + j) = nI (tx (s + j)) := by rw [tb]; exact byt_n (by
          have := of_decide_eq_true (run_in (tx := tx) (q := isLt) (n := n) (p := s) (k := j) (by unfold wle at cl; omega))
          omega)
        simp (maxSteps := 3000000) (disch := first | assumption | omega) only [m_X9_isWord_L28, bO_v, bR_v, bX_l, bX_r, bC_l, bC_r, aLet_v, nI_add, pk_mul, dvI_n, rmI_n, iMax_n, iMin_n, zO_0, zO_1, li_0, li_1, li_2, li_3, li_4, li_5, li_6, li_7, li_8, li_9, li_10, li_12, li_14, li_15, li_16, li_18, li_19, li_20, li_22, li_23, li_24, li_26, li_29, li_30, li_31, li_32, li_36, li_38, li_48, li_50, li_57, li_58, li_59, li_60, li_63, li_97, li_99, li_120, li_122, li_144, li_168, li_194, li_240, li_255, li_284, li_299, li_603, li_999, li_1200, li_1440, li_4095, li_4096, li_6030, li_16384, li_20160, zl0, zl1, zl2, zl3, zl4, ze01, ze02, ze03, ze04, ze10, ze12, ze13, ze14, ze20, ze21, ze23, ze24, ze30, ze31, ze32, ze34, ze40, ze41, ze42, ze43, zt0, zt1, zt2, zt3, zt4, zq0, zq1, zq2, zq3, zq4, it_t, it_f, Bool.true_eq_false, Bool.false_eq_true, na5, na4, na1441, na2, na10, sx_IOIA, sx_IOIS, sx_IONS, sx_IAIO, sx_IAIS, sx_IANS, sx_ISIO, sx_ISIA, sx_ISNS, sx_NSIO, sx_NSIA, sx_NSIS, gt, ln, nI_ltI, c_cR_gi c1, l4, c_prtxt c1, c_ctxt_al c1, tb2, ch, nI_eq]
        rw [if_pos hlt]
        by_cases c : tx (s + j) = wl i j
        · rw [if_pos c]
          refine ih _ _ _ (by omega) ⟨rfl, j + 1, hlt, rfl, rfl, fun k hk => ?_⟩
          by_cases ck : k = j
          · rw [ck]; exact c
          · exact no k (by omega)
        · rw [if_neg c, b2i_f (decide_eq_false (fun q => c (q j hlt)))]
      · obtain rfl : j = (rdb i).length := by omega
        simp (maxSteps := 3000000) (disch := first | assumption | omega) only [m_X9_isWord_L28, bO_v, bR_v, bX_l, bX_r, bC_l, bC_r, aLet_v, nI_add, pk_mul, dvI_n, rmI_n, iMax_n, iMin_n, zO_0, zO_1, li_0, li_1, li_2, li_3, li_4, li_5, li_6, li_7, li_8, li_9, li_10, li_12, li_14, li_15, li_16, li_18, li_19, li_20, li_22, li_23, li_24, li_26, li_29, li_30, li_31, li_32, li_36, li_38, li_48, li_50, li_57, li_58, li_59, li_60, li_63, li_97, li_99, li_120, li_122, li_144, li_168, li_194, li_240, li_255, li_284, li_299, li_603, li_999, li_1200, li_1440, li_4095, li_4096, li_6030, li_16384, li_20160, zl0, zl1, zl2, zl3, zl4, ze01, ze02, ze03, ze04, ze10, ze12, ze13, ze14, ze20, ze21, ze23, ze24, ze30, ze31, ze32, ze34, ze40, ze41, ze42, ze43, zt0, zt1, zt2, zt3, zt4, zq0, zq1, zq2, zq3, zq4, it_t, it_f, Bool.true_eq_false, Bool.false_eq_true, na5, na4, na1441, na2, na10, sx_IOIA, sx_IOIS, sx_IONS, sx_IAIO, sx_IAIS, sx_IANS, sx_ISIO, sx_ISIA, sx_ISNS, sx_NSIO, sx_NSIA, sx_NSIS, gt, ln, nI_ltI]
        rw [if_neg hlt, b2i_t (decide_eq_true no)]
    · rw [if_neg cl]
      have ei : isWd tx n s (wcode i) = false := by
        unfold isWd nmd
        by_cases c8 : wle tx n s ≤ 8
        · rw [decide_eq_true (show tok tx n s = 1 ∧ wle tx n s ≤ 8 by omega), Bool.true_and]
          exact decide_eq_false (fun e => cl (enc_inj (Nat.le_refl 27) f1 f2 e).1)
        · rw [decide_eq_false (fun q => c8 q.2)]; rfl
      rw [b2i_f ei]
  · rw [if_neg t1]
    have ei : isWd tx n s (wcode i) = false := by
      unfold isWd nmd
      rw [decide_eq_false (fun q => t1 q.1)]; rfl
    rw [b2i_f ei]
theorem k_symbol (X : TX tx n h0) (hQ : Q ∈ plL) (C : CS tx n Q h0 h s) {t : Nat} (ht : t = 3 ∨ t = 4) : CP Q h0 (m_X9_takesSymbol 3 (nI t) h) (sSym tx n s t) (fun s' h1 => CS tx n Q h0 h1 s' ∧ RF h h1) := by
  have t6 := tok_lt6 (tx := tx) (n := n) (s := s)
  have c1 := C.1
  simp (maxSteps := 3000000) (disch := first | assumption | omega) only [m_X9_takesSymbol, bO_v, bR_v, bX_l, bX_r, bC_l, bC_r, aLet_v, nI_add, pk_mul, dvI_n, rmI_n, iMax_n, iMin_n, zO_0, zO_1, li_0, li_1, li_2, li_3, li_4, li_5, li_6, li_7, li_8, li_9, li_10, li_12, li_14, li_15, li_16, li_18, li_19, li_20, li_22, li_23, li_24, li_26, li_29, li_30, li_31, li_32, li_36, li_38, li_48, li_50, li_57, li_58, li_59, li_60, li_63, li_97, li_99, li_120, li_122, li_144, li_168, li_194, li_240, li_255, li_284, li_299, li_603, li_999, li_1200, li_1440, li_4095, li_4096, li_6030, li_16384, li_20160, zl0, zl1, zl2, zl3, zl4, ze01, ze02, ze03, ze04, ze10, ze12, ze13, ze14, ze20, ze21, ze23, ze24, ze30, ze31, ze32, ze34, ze40, ze41, ze42, ze43, zt0, zt1, zt2, zt3, zt4, zq0, zq1, zq2, zq3, zq4, it_t, it_f, Bool.true_eq_false, Bool.false_eq_true, na5, na4, na1441, na2, na10, sx_IOIA, sx_IOIS, sx_IONS, sx_IAIO, sx_IAIS, sx_IANS, sx_ISIO, sx_ISIA, sx_ISNS, sx_NSIO, sx_NSIA, sx_NSIS, c_cR_gi c1, C.2.2.2.2.1.1, nI_eq, c_cR_gS c1]
  by_cases c : tok tx n s = t
  · rw [if_pos c]
    obtain ⟨_, h1, e1, q1, q2, -⟩ := k_takeC X hQ C (tok_in (tx := tx) (n := n) (s := s) (by omega))
    rw [e1, bR_v]
    exact cp_inr (by unfold sSym; rw [if_pos c]) ⟨q1, q2⟩
  · rw [if_neg c]
    obtain ⟨h1, e1, q, -⟩ := k_fails C (c := 1)
    simp (maxSteps := 3000000) (disch := first | assumption | omega) only [e1, bO_v, bR_v, bX_l, bX_r, bC_l, bC_r, aLet_v, nI_add, pk_mul, dvI_n, rmI_n, iMax_n, iMin_n, zO_0, zO_1, li_0, li_1, li_2, li_3, li_4, li_5, li_6, li_7, li_8, li_9, li_10, li_12, li_14, li_15, li_16, li_18, li_19, li_20, li_22, li_23, li_24, li_26, li_29, li_30, li_31, li_32, li_36, li_38, li_48, li_50, li_57, li_58, li_59, li_60, li_63, li_97, li_99, li_120, li_122, li_144, li_168, li_194, li_240, li_255, li_284, li_299, li_603, li_999, li_1200, li_1440, li_4095, li_4096, li_6030, li_16384, li_20160, zl0, zl1, zl2, zl3, zl4, ze01, ze02, ze03, ze04, ze10, ze12, ze13, ze14, ze20, ze21, ze23, ze24, ze30, ze31, ze32, ze34, ze40, ze41, ze42, ze43, zt0, zt1, zt2, zt3, zt4, zq0, zq1, zq2, zq3, zq4, it_t, it_f, Bool.true_eq_false, Bool.false_eq_true, na5, na4, na1441, na2, na10, sx_IOIA, sx_IOIS, sx_IONS, sx_IAIO, sx_IAIS, sx_IANS, sx_ISIO, sx_ISIA, sx_ISNS, sx_NSIO, sx_NSIA, sx_NSIS]
    exact cp_inl (by unfold sSym; rw [if_neg c]) q
theorem k_number (X : TX tx n h0) (hQ : Q ∈ plL) (C : CS tx n Q h0 h s) {lo hi : Nat} (h1 : lo < 100000) (h2 : hi < 100000) : CP Q h0 (m_X9_takesNumber 3 (nI lo) (nI hi) h) (sNum tx n s lo hi) (fun a h1 => CS tx n Q h0 h1 a.2 ∧ RF h h1 ∧ h_iv h1 3 7 = nI a.1 ∧ h_iv h1 3 6 = nI s) := by
  have t6 := tok_lt6 (tx := tx) (n := n) (s := s)
  have C0 := C
  obtain ⟨c1, c2, c3, c4, ⟨l3, l4, l5⟩, c6, c7⟩ := C
  have X2 := X.kx c2 hQ
  have x1 := X.1
  simp (maxSteps := 3000000) (disch := first | assumption | omega) only [m_X9_takesNumber, bO_v, bR_v, bX_l, bX_r, bC_l, bC_r, aLet_v, nI_add, pk_mul, dvI_n, rmI_n, iMax_n, iMin_n, zO_0, zO_1, li_0, li_1, li_2, li_3, li_4, li_5, li_6, li_7, li_8, li_9, li_10, li_12, li_14, li_15, li_16, li_18, li_19, li_20, li_22, li_23, li_24, li_26, li_29, li_30, li_31, li_32, li_36, li_38, li_48, li_50, li_57, li_58, li_59, li_60, li_63, li_97, li_99, li_120, li_122, li_144, li_168, li_194, li_240, li_255, li_284, li_299, li_603, li_999, li_1200, li_1440, li_4095, li_4096, li_6030, li_16384, li_20160, zl0, zl1, zl2, zl3, zl4, ze01, ze02, ze03, ze04, ze10, ze12, ze13, ze14, ze20, ze21, ze23, ze24, ze30, ze31, ze32, ze34, ze40, ze41, ze42, ze43, zt0, zt1, zt2, zt3, zt4, zq0, zq1, zq2, zq3, zq4, it_t, it_f, Bool.true_eq_false, Bool.false_eq_true, na5, na4, na1441, na2, na10, sx_IOIA, sx_IOIS, sx_IONS, sx_IAIO, sx_IAIS, sx_IANS, sx_ISIO, sx_ISIA, sx_ISNS, sx_NSIO, sx_NSIA, sx_NSIS, c_cR_gi c1, l3, l4, nI_eq, c_cR_gS c1]
  by_cases c : tok tx n s = 2
  · rw [if_pos c]
    obtain ⟨s1, s2, s3⟩ := tok2.mp c
    have en := nxt2 c
    have dl : dle tx n s ≤ n - s := run_le
    have nl := num_lt s3
    refine aJ_gen (R := fun o => CP Q h0 o (sNum tx n s lo hi) (fun (a : Nat × Nat) (h1 : aH) => CS tx n Q h0 h1 a.2 ∧ RF h h1 ∧ h_iv h1 3 7 = nI a.1 ∧ h_iv h1 3 6 = nI s)) (fun k53 hk53 => ?_)
    refine aL2_run (R := fun o => CP Q h0 o (sNum tx n s lo hi) (fun (a : Nat × Nat) (h1 : aH) => CS tx n Q h0 h1 a.2 ∧ RF h h1 ∧ h_iv h1 3 7 = nI a.1 ∧ h_iv h1 3 6 = nI s)) (fun m s1 s2 g => g = h ∧ ∃ j, j ≤ dle tx n s ∧ m = dle tx n s - j ∧ s2 = nI (s + j) ∧ s1 = nI (val tx s j)) ⟨rfl, 0, Nat.zero_le _, rfl, rfl, rfl⟩ (by omega) ?_
    rintro rec m s1 s2 g ⟨rfl, j, hj, rfl, rfl, rfl⟩ ih
    by_cases hlt : j < dle tx n s
    · obtain ⟨c9, tb⟩ := X2.2 (s + j) (by omega)
      have dg := of_decide_eq_true (run_in (tx := tx) (q := isDg) (n := n) (p := s) (k := j) hlt)
      have vb := val_lt (tx := tx) (s := s) (k := j) (fun i hi => run_in (n := n) (by unfold dle at hlt; omega))
      have vb2 : 10 ^ j ≤ 10 ^ 5 := Nat.pow_le_pow_right (by decide) (by omega)
      have p5 : (10 : Nat) ^ 5 = 100000 := by decide
      rw [byt_n (by omega)] at tb
      have st : nI (val tx s j) * nI 10 + nI (tx (s + j)) - nI 48 = nI (val tx s (j + 1)) := by
        rw [pk_mul, nI_add, pk_sub (by omega), val]
        congr 1
        omega
      simp (maxSteps := 3000000) (disch := first | assumption | omega) only [m_X9_takesNumber_L22, bO_v, bR_v, bX_l, bX_r, bC_l, bC_r, aLet_v, nI_add, pk_mul, dvI_n, rmI_n, iMax_n, iMin_n, zO_0, zO_1, li_0, li_1, li_2, li_3, li_4, li_5, li_6, li_7, li_8, li_9, li_10, li_12, li_14, li_15, li_16, li_18, li_19, li_20, li_22, li_23, li_24, li_26, li_29, li_30, li_31, li_32, li_36, li_38, li_48, li_50, li_57, li_58, li_59, li_60, li_63, li_97, li_99, li_120, li_122, li_144, li_168, li_194, li_240, li_255, li_284, li_299, li_603, li_999, li_1200, li_1440, li_4095, li_4096, li_6030, li_16384, li_20160, zl0, zl1, zl2, zl3, zl4, ze01, ze02, ze03, ze04, ze10, ze12, ze13, ze14, ze20, ze21, ze23, ze24, ze30, ze31, ze32, ze34, ze40, ze41, ze42, ze43, zt0, zt1, zt2, zt3, zt4, zq0, zq1, zq2, zq3, zq4, it_t, it_f, Bool.true_eq_false, Bool.false_eq_true, na5, na4, na1441, na2, na10, sx_IOIA, sx_IOIS, sx_IONS, sx_IAIO, sx_IAIS, sx_IANS, sx_ISIO, sx_ISIA, sx_ISNS, sx_NSIO, sx_NSIA, sx_NSIS, c_cR_gi c1, l5, en, nI_ltI, c_prtxt c1, c_ctxt_al c1, tb]
      rw [if_pos (by omega), ← nI_add, ← pk_mul, st]
      exact ih _ _ _ _ (by omega) ⟨rfl, j + 1, hlt, rfl, rfl, rfl⟩
    · obtain rfl : j = dle tx n s := by omega
      change num tx n s < 100000 at nl
      simp (maxSteps := 3000000) (disch := first | assumption | omega) only [m_X9_takesNumber_L22, bO_v, bR_v, bX_l, bX_r, bC_l, bC_r, aLet_v, nI_add, pk_mul, dvI_n, rmI_n, iMax_n, iMin_n, zO_0, zO_1, li_0, li_1, li_2, li_3, li_4, li_5, li_6, li_7, li_8, li_9, li_10, li_12, li_14, li_15, li_16, li_18, li_19, li_20, li_22, li_23, li_24, li_26, li_29, li_30, li_31, li_32, li_36, li_38, li_48, li_50, li_57, li_58, li_59, li_60, li_63, li_97, li_99, li_120, li_122, li_144, li_168, li_194, li_240, li_255, li_284, li_299, li_603, li_999, li_1200, li_1440, li_4095, li_4096, li_6030, li_16384, li_20160, zl0, zl1, zl2, zl3, zl4, ze01, ze02, ze03, ze04, ze10, ze12, ze13, ze14, ze20, ze21, ze23, ze24, ze30, ze31, ze32, ze34, ze40, ze41, ze42, ze43, zt0, zt1, zt2, zt3, zt4, zq0, zq1, zq2, zq3, zq4, it_t, it_f, Bool.true_eq_false, Bool.false_eq_true, na5, na4, na1441, na2, na10, sx_IOIA, sx_IOIS, sx_IONS, sx_IAIO, sx_IAIS, sx_IANS, sx_ISIO, sx_ISIA, sx_ISNS, sx_NSIO, sx_NSIA, sx_NSIS, c_cR_gi c1, l5, en, nI_ltI]
      rw [if_neg (by omega), hk53]
      rw [show val tx s (dle tx n s) = num tx n s from rfl]
      simp (maxSteps := 3000000) (disch := first | assumption | omega) only [bO_v, bR_v, bX_l, bX_r, bC_l, bC_r, aLet_v, nI_add, pk_mul, dvI_n, rmI_n, iMax_n, iMin_n, zO_0, zO_1, li_0, li_1, li_2, li_3, li_4, li_5, li_6, li_7, li_8, li_9, li_10, li_12, li_14, li_15, li_16, li_18, li_19, li_20, li_22, li_23, li_24, li_26, li_29, li_30, li_31, li_32, li_36, li_38, li_48, li_50, li_57, li_58, li_59, li_60, li_63, li_97, li_99, li_120, li_122, li_144, li_168, li_194, li_240, li_255, li_284, li_299, li_603, li_999, li_1200, li_1440, li_4095, li_4096, li_6030, li_16384, li_20160, zl0, zl1, zl2, zl3, zl4, ze01, ze02, ze03, ze04, ze10, ze12, ze13, ze14, ze20, ze21, ze23, ze24, ze30, ze31, ze32, ze34, ze40, ze41, ze42, ze43, zt0, zt1, zt2, zt3, zt4, zq0, zq1, zq2, zq3, zq4, it_t, it_f, Bool.true_eq_false, Bool.false_eq_true, na5, na4, na1441, na2, na10, sx_IOIA, sx_IOIS, sx_IONS, sx_IAIO, sx_IAIS, sx_IANS, sx_ISIO, sx_ISIA, sx_ISNS, sx_NSIO, sx_NSIA, sx_NSIS, nI_ltI, nI_leI, c_cR_gS c1]
      refine aJ_gen (R := fun o => CP Q h0 o (sNum tx n s lo hi) (fun (a : Nat × Nat) (h1 : aH) => CS tx n Q h0 h1 a.2 ∧ RF g h1 ∧ h_iv h1 3 7 = nI a.1 ∧ h_iv h1 3 6 = nI s)) (fun k63 hk63 => ?_)
      have bad : ¬ (lo ≤ num tx n s ∧ num tx n s ≤ hi) → CP Q h0 (k63 g) (sNum tx n s lo hi) (fun a h1 => CS tx n Q h0 h1 a.2 ∧ RF g h1 ∧ h_iv h1 3 7 = nI a.1 ∧ h_iv h1 3 6 = nI s) := fun cc => by
        obtain ⟨h1, e1, q, -⟩ := k_fails C0 (c := 2)
        rw [hk63]
        simp (maxSteps := 3000000) (disch := first | assumption | omega) only [c_cR_gS c1, e1, bO_v, bR_v, bX_l, bX_r, bC_l, bC_r, aLet_v, nI_add, pk_mul, dvI_n, rmI_n, iMax_n, iMin_n, zO_0, zO_1, li_0, li_1, li_2, li_3, li_4, li_5, li_6, li_7, li_8, li_9, li_10, li_12, li_14, li_15, li_16, li_18, li_19, li_20, li_22, li_23, li_24, li_26, li_29, li_30, li_31, li_32, li_36, li_38, li_48, li_50, li_57, li_58, li_59, li_60, li_63, li_97, li_99, li_120, li_122, li_144, li_168, li_194, li_240, li_255, li_284, li_299, li_603, li_999, li_1200, li_1440, li_4095, li_4096, li_6030, li_16384, li_20160, zl0, zl1, zl2, zl3, zl4, ze01, ze02, ze03, ze04, ze10, ze12, ze13, ze14, ze20, ze21, ze23, ze24, ze30, ze31, ze32, ze34, ze40, ze41, ze42, ze43, zt0, zt1, zt2, zt3, zt4, zq0, zq1, zq2, zq3, zq4, it_t, it_f, Bool.true_eq_false, Bool.false_eq_true, na5, na4, na1441, na2, na10, sx_IOIA, sx_IOIS, sx_IONS, sx_IAIO, sx_IAIS, sx_IANS, sx_ISIO, sx_ISIA, sx_ISNS, sx_NSIO, sx_NSIA, sx_NSIS]
        exact cp_inl (by unfold sNum; rw [if_neg (by omega), if_neg cc]) q
      by_cases b1 : num tx n s < lo
      · rw [if_pos b1]; exact bad (by omega)
      · rw [if_neg b1]
        by_cases b2 : num tx n s ≤ hi
        · rw [if_pos b2]
          have F7 : Fx (fun o k => o = 3 ∧ k = 7) g (h_si g 3 7 (nI (num tx n s))) := Fx.si ⟨rfl, rfl⟩
          have R7 := RF.fx F7 (fun o k q => q.1)
          have C7 : CS tx n Q h0 (h_si g 3 7 (nI (num tx n s))) s := C0.rf R7 ⟨F7.iv (by omega), F7.iv (by omega), F7.iv (by omega)⟩ ⟨by rw [F7.iv (by omega)]; exact l3, by rw [F7.iv (by omega)]; exact l4, by rw [F7.iv (by omega)]; exact l5⟩ c6 c7.1
          obtain ⟨_, h1, e1, q1, q2, q3, q4, -⟩ := k_takeC X hQ C7 s1
          simp (maxSteps := 3000000) (disch := first | assumption | omega) only [c_cR_pi c1, bO_v, bR_v, bX_l, bX_r, bC_l, bC_r, aLet_v, nI_add, pk_mul, dvI_n, rmI_n, iMax_n, iMin_n, zO_0, zO_1, li_0, li_1, li_2, li_3, li_4, li_5, li_6, li_7, li_8, li_9, li_10, li_12, li_14, li_15, li_16, li_18, li_19, li_20, li_22, li_23, li_24, li_26, li_29, li_30, li_31, li_32, li_36, li_38, li_48, li_50, li_57, li_58, li_59, li_60, li_63, li_97, li_99, li_120, li_122, li_144, li_168, li_194, li_240, li_255, li_284, li_299, li_603, li_999, li_1200, li_1440, li_4095, li_4096, li_6030, li_16384, li_20160, zl0, zl1, zl2, zl3, zl4, ze01, ze02, ze03, ze04, ze10, ze12, ze13, ze14, ze20, ze21, ze23, ze24, ze30, ze31, ze32, ze34, ze40, ze41, ze42, ze43, zt0, zt1, zt2, zt3, zt4, zq0, zq1, zq2, zq3, zq4, it_t, it_f, Bool.true_eq_false, Bool.false_eq_true, na5, na4, na1441, na2, na10, sx_IOIA, sx_IOIS, sx_IONS, sx_IAIO, sx_IAIS, sx_IANS, sx_ISIO, sx_ISIA, sx_ISNS, sx_NSIO, sx_NSIA, sx_NSIS, c_cR_gS C7.1, e1]
          refine cp_inr (a := (num tx n s, adv tx n s)) (by unfold sNum; rw [if_neg (by omega), if_pos ⟨by omega, b2⟩]) ?_
          exact ⟨q1, R7.trans q2, by rw [q4, si_at], q3⟩
        · rw [if_neg b2]; exact bad (by omega)
  · rw [if_neg c]
    obtain ⟨h1, e1, q, -⟩ := k_fails C0 (c := 1)
    simp (maxSteps := 3000000) (disch := first | assumption | omega) only [e1, bO_v, bR_v, bX_l, bX_r, bC_l, bC_r, aLet_v, nI_add, pk_mul, dvI_n, rmI_n, iMax_n, iMin_n, zO_0, zO_1, li_0, li_1, li_2, li_3, li_4, li_5, li_6, li_7, li_8, li_9, li_10, li_12, li_14, li_15, li_16, li_18, li_19, li_20, li_22, li_23, li_24, li_26, li_29, li_30, li_31, li_32, li_36, li_38, li_48, li_50, li_57, li_58, li_59, li_60, li_63, li_97, li_99, li_120, li_122, li_144, li_168, li_194, li_240, li_255, li_284, li_299, li_603, li_999, li_1200, li_1440, li_4095, li_4096, li_6030, li_16384, li_20160, zl0, zl1, zl2, zl3, zl4, ze01, ze02, ze03, ze04, ze10, ze12, ze13, ze14, ze20, ze21, ze23, ze24, ze30, ze31, ze32, ze34, ze40, ze41, ze42, ze43, zt0, zt1, zt2, zt3, zt4, zq0, zq1, zq2, zq3, zq4, it_t, it_f, Bool.true_eq_false, Bool.false_eq_true, na5, na4, na1441, na2, na10, sx_IOIA, sx_IOIS, sx_IONS, sx_IAIO, sx_IAIS, sx_IANS, sx_ISIO, sx_ISIA, sx_ISNS, sx_NSIO, sx_NSIA, sx_NSIS]
    exact cp_inl (by unfold sNum; rw [if_pos c]) q
end
