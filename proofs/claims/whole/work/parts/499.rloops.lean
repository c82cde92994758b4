/-! the reference's reader: sections -/
section
variable {h h0 : aH} {tx : Nat → Nat} {n s : Nat} {M : Nat → Nat → Nat}
theorem RM.rz (R : RM tx n M h) {h1 : aH} (x : RZ h h1) : RM tx n M h1 := by
  obtain ⟨⟨r1, r2, r3, r4, r5⟩, r6, r7, r8⟩ := R
  have ri := x.ri
  refine ⟨⟨by rw [ri _ _ (by unfold RSx; omega)]; exact r1, by rw [ri _ _ (by unfold RSx; omega)]; exact r2, by rw [ri _ _ (by unfold RSx; omega)]; exact r3, by rw [ri _ _ (by unfold RSx; omega)]; exact r4, by rw [ri _ _ (by unfold RSx; omega)]; exact r5⟩, fun o k f => ?_, fun k hk => ?_, fun so hso i hi => ?_⟩
  · have f1 := fil_in f
    have f2 := nu_in f1.1 f1.2.1
    rw [ri _ _ (by unfold RSx; omega)]; exact r6 o k f
  · rw [ri 441 k (by unfold RSx; omega), ri 440 k (by unfold RSx; omega)]; exact r7 k hk
  · rw [x.2.2.2.2.2.2 _ _ (by omega)]; exact r8 so hso i hi
theorem y_semi (X : TR tx n h0) {r : (Nat → Nat → Nat) × Nat} (y : YI tx n h0 r () h) : YP n h0 (m_X12_semicolon 412 h) (sSym tx n r.2 3) (fun _ _ => True) (fun s' _ h1 => GS tx n h0 h1 s' ∧ RM tx n r.1 h1) := by
  have z : (nI 0 = nI 0) = True := eq_self _
  have z1 : (nI 1 = nI 0) = False := eq_false (by decide)
  rcases y with ⟨G, R⟩ | ⟨b, t⟩
  · have S := G.1
    obtain ⟨_, h1, e1, hh⟩ := y_sign X G (c := 59) (t := 3) (Or.inl ⟨rfl, rfl⟩)
    simp (maxSteps := 3000000) (disch := first | assumption | omega) only [m_X12_semicolon, bO_v, bR_v, bX_l, bX_r, bC_l, bC_r, aJ_v, aLet_v, nI_add, pk_mul, dvI_n, rmI_n, iMax_n, iMin_n, zO_0, zO_1, li_0, li_1, li_2, li_3, li_4, li_5, li_6, li_7, li_8, li_9, li_10, li_12, li_14, li_15, li_16, li_18, li_19, li_20, li_22, li_23, li_24, li_26, li_29, li_30, li_31, li_32, li_36, li_38, li_48, li_50, li_57, li_58, li_59, li_60, li_63, li_97, li_99, li_120, li_122, li_144, li_168, li_194, li_240, li_255, li_284, li_299, li_603, li_999, li_1200, li_1440, li_4095, li_4096, li_6030, li_16384, li_20160, zl0, zl1, zl2, zl3, zl4, ze01, ze02, ze03, ze04, ze10, ze12, ze13, ze14, ze20, ze21, ze23, ze24, ze30, ze31, ze32, ze34, ze40, ze41, ze42, ze43, zt0, zt1, zt2, zt3, zt4, zq0, zq1, zq2, zq3, zq4, it_t, it_f, Bool.true_eq_false, Bool.false_eq_true, na5, na4, na1441, na2, na10, sx_IOIA, sx_IOIS, sx_IONS, sx_IAIO, sx_IAIS, sx_IANS, sx_ISIO, sx_ISIA, sx_ISNS, sx_NSIO, sx_NSIA, sx_NSIS, r_cM_gi S, G.2.2.2.1, z, r_cM_gS S, e1]
    cases e : sSym tx n r.2 3 with
    | inl e9 =>
      rw [e] at hh
      exact ok_ret ⟨hh.1, trivial⟩
    | inr s' =>
      rw [e] at hh
      exact ok_ret ⟨hh.1, R.rz hh.2⟩
  · simp (maxSteps := 3000000) (disch := first | assumption | omega) only [m_X12_semicolon, bO_v, bR_v, bX_l, bX_r, bC_l, bC_r, aJ_v, aLet_v, nI_add, pk_mul, dvI_n, rmI_n, iMax_n, iMin_n, zO_0, zO_1, li_0, li_1, li_2, li_3, li_4, li_5, li_6, li_7, li_8, li_9, li_10, li_12, li_14, li_15, li_16, li_18, li_19, li_20, li_22, li_23, li_24, li_26, li_29, li_30, li_31, li_32, li_36, li_38, li_48, li_50, li_57, li_58, li_59, li_60, li_63, li_97, li_99, li_120, li_122, li_144, li_168, li_194, li_240, li_255, li_284, li_299, li_603, li_999, li_1200, li_1440, li_4095, li_4096, li_6030, li_16384, li_20160, zl0, zl1, zl2, zl3, zl4, ze01, ze02, ze03, ze04, ze10, ze12, ze13, ze14, ze20, ze21, ze23, ze24, ze30, ze31, ze32, ze34, ze40, ze41, ze42, ze43, zt0, zt1, zt2, zt3, zt4, zq0, zq1, zq2, zq3, zq4, it_t, it_f, Bool.true_eq_false, Bool.false_eq_true, na5, na4, na1441, na2, na10, sx_IOIA, sx_IOIS, sx_IONS, sx_IAIO, sx_IAIS, sx_IANS, sx_ISIO, sx_ISIA, sx_ISNS, sx_NSIO, sx_NSIA, sx_NSIS, r_cM_gi b.1, b.2.2.2.1, z1]
    have e : sSym tx n r.2 3 = .inl (1, r.2) := by unfold sSym; rw [if_neg t]
    rw [e]
    exact ok_ret ⟨b, trivial⟩
theorem y_semiB {e : ER} (b : BE n h0 h e) : m_X12_semicolon 412 h = some ((), h) := by
  have z1 : (nI 1 = nI 0) = False := eq_false (by decide)
  simp (maxSteps := 3000000) (disch := first | assumption | omega) only [m_X12_semicolon, bO_v, bR_v, bX_l, bX_r, bC_l, bC_r, aJ_v, aLet_v, nI_add, pk_mul, dvI_n, rmI_n, iMax_n, iMin_n, zO_0, zO_1, li_0, li_1, li_2, li_3, li_4, li_5, li_6, li_7, li_8, li_9, li_10, li_12, li_14, li_15, li_16, li_18, li_19, li_20, li_22, li_23, li_24, li_26, li_29, li_30, li_31, li_32, li_36, li_38, li_48, li_50, li_57, li_58, li_59, li_60, li_63, li_97, li_99, li_120, li_122, li_144, li_168, li_194, li_240, li_255, li_284, li_299, li_603, li_999, li_1200, li_1440, li_4095, li_4096, li_6030, li_16384, li_20160, zl0, zl1, zl2, zl3, zl4, ze01, ze02, ze03, ze04, ze10, ze12, ze13, ze14, ze20, ze21, ze23, ze24, ze30, ze31, ze32, ze34, ze40, ze41, ze42, ze43, zt0, zt1, zt2, zt3, zt4, zq0, zq1, zq2, zq3, zq4, it_t, it_f, Bool.true_eq_false, Bool.false_eq_true, na5, na4, na1441, na2, na10, sx_IOIA, sx_IOIS, sx_IONS, sx_IAIO, sx_IAIS, sx_IANS, sx_ISIO, sx_ISIA, sx_ISNS, sx_NSIO, sx_NSIA, sx_NSIS, r_cM_gi b.1, b.2.2.2.1, z1]
/-- how a section is read -/
def bodyY (kf : Nat) (wd : Int64) (most : Int32) (item k r : aH → Option (Unit × aH)) (h : aH) : Option (Unit × aH) :=
  bO (gi h 12 412 kf) fun x =>
  gS h 12 412 <|
  bR (m_X12_begins 412 wd x most h) fun x8 h23 =>
  if x8 = 0 then
    k h23
  else
  gS h23 12 412 <|
  bR (item h23) fun _ h24 =>
  gS h24 12 412 <|
  bR (m_X12_semicolon 412 h24) fun _ h25 =>
  r h25
/-- the spec's rest from here on is SM; no section below c can follow -/
def YM (tx : Nat → Nat) (n : Nat) (h0 : aH) (SM : ER ⊕ (Nat → Nat → Nat)) (c : Nat) (g : aH) : Prop := (∃ f sec M s, SM = sMain tx n f sec M s ∧ sec ≤ c ∧ (∀ c', sec ≤ c' → c' < c → sSec tx n s ≠ c') ∧ n < s + f ∧ GS tx n h0 g s ∧ RM tx n M g ∧ WM M) ∨ ∃ e, SM = .inl e ∧ BE n h0 g e
theorem y_loop (X : TR tx n h0) {SM : ER ⊕ (Nat → Nat → Nat)} {c kf most W : Nat} {wd : Int64} {item k : aH → Option (Unit × aH)} (hc : c < 5) (hW : ∀ s, isWd tx n s W = true ↔ sSec tx n s = c) (hw : wd = lN W) (hW1 : 1 ≤ W) (hW2 : W < 2 ^ 63) (cnt : (Nat → Nat → Nat) → Nat) (hcnt : ∀ M g, RM tx n M g → h_iv g 412 kf = nI (cnt M)) (hle : ∀ M, WM M → cnt M ≤ most) (hm : most < 1000)
    (hfull : ∀ M s, cnt M = most → sItem tx n c M s = .inl (5, s)) (hitem : ∀ M g s, WM M → RM tx n M g → GS tx n h0 g (adv tx n s) → cnt M < most → YP n h0 (item g) (sItem tx n c M s) (fun _ _ => True) (YI tx n h0))
    {g : aH} (y : YM tx n h0 SM c g) (Z : Option (Unit × aH) → Prop) (hk : ∀ g', YM tx n h0 SM (c + 1) g' → Z (k g')) : Z (aL0 (bodyY kf wd (nI most) item k) FU g) := by
  have z : (nI 0 = nI 0) = True := eq_self _
  have z1 : (nI 1 = nI 0) = False := eq_false (by decide)
  have x1 := X.1
  have st : ∃ m, m < 5000 ∧ ((∃ f sec M s, m = n - s + 1 ∧ SM = sMain tx n f sec M s ∧ sec ≤ c ∧ (∀ c', sec ≤ c' → c' < c → sSec tx n s ≠ c') ∧ n < s + f ∧ GS tx n h0 g s ∧ RM tx n M g ∧ WM M) ∨ (m = 0 ∧ ∃ e, SM = .inl e ∧ BE n h0 g e)) := by
    rcases y with ⟨f, sec, M, s, q⟩ | q
    · exact ⟨n - s + 1, by omega, Or.inl ⟨f, sec, M, s, rfl, q⟩⟩
    · exact ⟨0, by omega, Or.inr ⟨rfl, q⟩⟩
  obtain ⟨m0, hm0, st⟩ := st
  refine aL0_run (R := Z) (fun m g => (∃ f sec M s, m = n - s + 1 ∧ SM = sMain tx n f sec M s ∧ sec ≤ c ∧ (∀ c', sec ≤ c' → c' < c → sSec tx n s ≠ c') ∧ n < s + f ∧ GS tx n h0 g s ∧ RM tx n M g ∧ WM M) ∨ (m = 0 ∧ ∃ e, SM = .inl e ∧ BE n h0 g e)) st (by omega) ?_
  rintro rec m g (⟨f, sec, M, s, rfl, es, hs1, hs2, hf, G, R, w⟩ | ⟨rfl, e, es, b⟩) ih
  · have Sg := G.1
    have le := G.le
    have ec := hcnt M g R
    have lm := hle M w
    obtain ⟨r, h1, e1, hh⟩ := y_begins X G (c := W) (cnt := cnt M) (most := most) hW1 hW2 hw (by omega) hm
    simp (maxSteps := 3000000) (disch := first | assumption | omega) only [bodyY, bO_v, bR_v, bX_l, bX_r, bC_l, bC_r, aLet_v, nI_add, pk_mul, dvI_n, rmI_n, iMax_n, iMin_n, zO_0, zO_1, li_0, li_1, li_2, li_3, li_4, li_5, li_6, li_7, li_8, li_9, li_10, li_12, li_14, li_15, li_16, li_18, li_19, li_20, li_22, li_23, li_24, li_26, li_29, li_30, li_31, li_32, li_36, li_38, li_48, li_50, li_57, li_58, li_59, li_60, li_63, li_97, li_99, li_120, li_122, li_144, li_168, li_194, li_240, li_255, li_284, li_299, li_603, li_999, li_1200, li_1440, li_4095, li_4096, li_6030, li_16384, li_20160, zl0, zl1, zl2, zl3, zl4, ze01, ze02, ze03, ze04, ze10, ze12, ze13, ze14, ze20, ze21, ze23, ze24, ze30, ze31, ze32, ze34, ze40, ze41, ze42, ze43, zt0, zt1, zt2, zt3, zt4, zq0, zq1, zq2, zq3, zq4, it_t, it_f, Bool.true_eq_false, Bool.false_eq_true, na5, na4, na1441, na2, na10, sx_IOIA, sx_IOIS, sx_IONS, sx_IAIO, sx_IAIS, sx_IANS, sx_ISIO, sx_ISIA, sx_ISNS, sx_NSIO, sx_NSIA, sx_NSIS, r_cM_gi Sg, ec, r_cM_gS Sg, e1]
    obtain ⟨f, rfl⟩ : ∃ f', f = f' + 1 := ⟨f - 1, by omega⟩
    cases wd9 : isWd tx n s W
    · rw [if_pos wd9] at hh
      obtain ⟨rfl, G1, Z1⟩ := hh
      rw [if_pos rfl]
      refine hk h1 (Or.inl ⟨f + 1, sec, M, s, es, by omega, fun c' q1 q2 => ?_, hf, G1, R.rz Z1, w⟩)
      by_cases cc : c' = c
      · subst cc
        intro q
        rw [(hW s).mpr q] at wd9; cases wd9
      · exact hs2 c' q1 (by omega)
    · rw [if_neg (show ¬ isWd tx n s W = false by rw [wd9]; decide)] at hh
      have sc := (hW s).mp wd9
      have nm := (Bool.and_eq_true_iff.mp wd9).1
      have sn := nmd_in nm
      have t1 : tok tx n s = 1 := (of_decide_eq_true nm).1
      have es2 : SM = sb (sItem tx n c M s) fun r => sb (sSym tx n r.2 3) fun s2 => sMain tx n f c r.1 s2 := by
        rw [es, sMain, if_neg (by omega), if_neg (by omega), sc]
      by_cases cm : cnt M = most
      · rw [if_pos cm] at hh
        obtain ⟨rfl, b1⟩ := hh
        rw [if_pos rfl]
        exact hk h1 (Or.inr ⟨(5, s), by rw [es2, hfull M s cm]; rfl, b1⟩)
      · rw [if_neg cm] at hh
        obtain ⟨rfl, G1, Z1⟩ := hh
        rw [if_neg (by decide)]
        obtain ⟨_, h2, e2, hh⟩ := hitem M h1 s w (R.rz Z1) G1 (by omega)
        simp (maxSteps := 3000000) (disch := first | assumption | omega) only [bO_v, bR_v, bX_l, bX_r, bC_l, bC_r, aLet_v, nI_add, pk_mul, dvI_n, rmI_n, iMax_n, iMin_n, zO_0, zO_1, li_0, li_1, li_2, li_3, li_4, li_5, li_6, li_7, li_8, li_9, li_10, li_12, li_14, li_15, li_16, li_18, li_19, li_20, li_22, li_23, li_24, li_26, li_29, li_30, li_31, li_32, li_36, li_38, li_48, li_50, li_57, li_58, li_59, li_60, li_63, li_97, li_99, li_120, li_122, li_144, li_168, li_194, li_240, li_255, li_284, li_299, li_603, li_999, li_1200, li_1440, li_4095, li_4096, li_6030, li_16384, li_20160, zl0, zl1, zl2, zl3, zl4, ze01, ze02, ze03, ze04, ze10, ze12, ze13, ze14, ze20, ze21, ze23, ze24, ze30, ze31, ze32, ze34, ze40, ze41, ze42, ze43, zt0, zt1, zt2, zt3, zt4, zq0, zq1, zq2, zq3, zq4, it_t, it_f, Bool.true_eq_false, Bool.false_eq_true, na5, na4, na1441, na2, na10, sx_IOIA, sx_IOIS, sx_IONS, sx_IAIO, sx_IAIS, sx_IANS, sx_ISIO, sx_ISIA, sx_ISNS, sx_NSIO, sx_NSIA, sx_NSIS, r_cM_gS G1.1, e2]
        cases ei : sItem tx n c M s with
        | inl e =>
          rw [ei] at hh
          obtain ⟨b2, -⟩ := hh
          simp (maxSteps := 3000000) (disch := first | assumption | omega) only [bO_v, bR_v, bX_l, bX_r, bC_l, bC_r, aLet_v, nI_add, pk_mul, dvI_n, rmI_n, iMax_n, iMin_n, zO_0, zO_1, li_0, li_1, li_2, li_3, li_4, li_5, li_6, li_7, li_8, li_9, li_10, li_12, li_14, li_15, li_16, li_18, li_19, li_20, li_22, li_23, li_24, li_26, li_29, li_30, li_31, li_32, li_36, li_38, li_48, li_50, li_57, li_58, li_59, li_60, li_63, li_97, li_99, li_120, li_122, li_144, li_168, li_194, li_240, li_255, li_284, li_299, li_603, li_999, li_1200, li_1440, li_4095, li_4096, li_6030, li_16384, li_20160, zl0, zl1, zl2, zl3, zl4, ze01, ze02, ze03, ze04, ze10, ze12, ze13, ze14, ze20, ze21, ze23, ze24, ze30, ze31, ze32, ze34, ze40, ze41, ze42, ze43, zt0, zt1, zt2, zt3, zt4, zq0, zq1, zq2, zq3, zq4, it_t, it_f, Bool.true_eq_false, Bool.false_eq_true, na5, na4, na1441, na2, na10, sx_IOIA, sx_IOIS, sx_IONS, sx_IAIO, sx_IAIS, sx_IANS, sx_ISIO, sx_ISIA, sx_ISNS, sx_NSIO, sx_NSIA, sx_NSIS, r_cM_gS b2.1, y_semiB b2]
          exact ih 0 _ (by omega) (Or.inr ⟨rfl, e, by rw [es2, ei]; rfl, b2⟩)
        | inr a =>
          rw [ei] at hh
          obtain ⟨w2, l1, l2⟩ := wm_item w sn ei
          have S2 : Sh h2 := by
            rcases hh with q | q
            · exact q.1.1
            · exact q.1.1
          obtain ⟨_, h3, e3, hh⟩ := y_semi X (r := a) hh
          simp (maxSteps := 3000000) (disch := first | assumption | omega) only [bO_v, bR_v, bX_l, bX_r, bC_l, bC_r, aLet_v, nI_add, pk_mul, dvI_n, rmI_n, iMax_n, iMin_n, zO_0, zO_1, li_0, li_1, li_2, li_3, li_4, li_5, li_6, li_7, li_8, li_9, li_10, li_12, li_14, li_15, li_16, li_18, li_19, li_20, li_22, li_23, li_24, li_26, li_29, li_30, li_31, li_32, li_36, li_38, li_48, li_50, li_57, li_58, li_59, li_60, li_63, li_97, li_99, li_120, li_122, li_144, li_168, li_194, li_240, li_255, li_284, li_299, li_603, li_999, li_1200, li_1440, li_4095, li_4096, li_6030, li_16384, li_20160, zl0, zl1, zl2, zl3, zl4, ze01, ze02, ze03, ze04, ze10, ze12, ze13, ze14, ze20, ze21, ze23, ze24, ze30, ze31, ze32, ze34, ze40, ze41, ze42, ze43, zt0, zt1, zt2, zt3, zt4, zq0, zq1, zq2, zq3, zq4, it_t, it_f, Bool.true_eq_false, Bool.false_eq_true, na5, na4, na1441, na2, na10, sx_IOIA, sx_IOIS, sx_IONS, sx_IAIO, sx_IAIS, sx_IANS, sx_ISIO, sx_ISIA, sx_ISNS, sx_NSIO, sx_NSIA, sx_NSIS, r_cM_gS S2, e3]
          cases ey : sSym tx n a.2 3 with
          | inl e =>
            rw [ey] at hh
            refine ih 0 _ (by omega) (Or.inr ⟨rfl, e, ?_, hh.1⟩)
            rw [es2, ei]
            show sb (sSym tx n a.2 3) _ = _
            rw [ey]; rfl
          | inr s2 =>
            rw [ey] at hh
            obtain ⟨i1, rfl⟩ := sSym_inr (by decide) ey
            have ad := adv_gt (tx := tx) i1
            refine ih (n - adv tx n a.2 + 1) _ (by omega) (Or.inl ⟨f, c, a.1, adv tx n a.2, rfl, ?_, Nat.le_refl _, fun c' q1 q2 => absurd q2 (by omega), by omega, hh.1, hh.2, w2⟩)
            rw [es2, ei]
            show sb (sSym tx n a.2 3) _ = _
            rw [ey]; rfl
  · obtain ⟨r, h1, e1, rfl, b1⟩ := y_beginsB X b (x := h_iv g 412 kf) (y := nI most) (w := wd)
    simp (maxSteps := 3000000) (disch := first | assumption | omega) only [bodyY, bO_v, bR_v, bX_l, bX_r, bC_l, bC_r, aLet_v, nI_add, pk_mul, dvI_n, rmI_n, iMax_n, iMin_n, zO_0, zO_1, li_0, li_1, li_2, li_3, li_4, li_5, li_6, li_7, li_8, li_9, li_10, li_12, li_14, li_15, li_16, li_18, li_19, li_20, li_22, li_23, li_24, li_26, li_29, li_30, li_31, li_32, li_36, li_38, li_48, li_50, li_57, li_58, li_59, li_60, li_63, li_97, li_99, li_120, li_122, li_144, li_168, li_194, li_240, li_255, li_284, li_299, li_603, li_999, li_1200, li_1440, li_4095, li_4096, li_6030, li_16384, li_20160, zl0, zl1, zl2, zl3, zl4, ze01, ze02, ze03, ze04, ze10, ze12, ze13, ze14, ze20, ze21, ze23, ze24, ze30, ze31, ze32, ze34, ze40, ze41, ze42, ze43, zt0, zt1, zt2, zt3, zt4, zq0, zq1, zq2, zq3, zq4, it_t, it_f, Bool.true_eq_false, Bool.false_eq_true, na5, na4, na1441, na2, na10, sx_IOIA, sx_IOIS, sx_IONS, sx_IAIO, sx_IAIS, sx_IANS, sx_ISIO, sx_ISIA, sx_ISNS, sx_NSIO, sx_NSIA, sx_NSIS, r_cM_gi b.1, r_cM_gS b.1, e1]
    exact hk h1 (Or.inr ⟨e, es, b1⟩)
theorem wd_one {a b : Nat} (ha : isWd tx n s a = true) (hb : isWd tx n s b = true) : a = b := (of_decide_eq_true (Bool.and_eq_true_iff.mp ha).2).symm.trans (of_decide_eq_true (Bool.and_eq_true_iff.mp hb).2)
theorem wd_no {a b : Nat} (ha : isWd tx n s a = true) (hab : b ≠ a) : isWd tx n s b = false := by
  cases e : isWd tx n s b
  · rfl
  · exact absurd (wd_one e ha) hab
theorem sec_0 (s : Nat) : isWd tx n s 232608281 = true ↔ sSec tx n s = 0 := by
  unfold sSec
  cases e0 : isWd tx n s 232608281
  · refine ⟨fun q => (by cases q), fun q => ?_⟩
    (repeat' split at q) <;> omega
  · exact ⟨fun _ => rfl, fun _ => rfl⟩
theorem sec_1 (s : Nat) : isWd tx n s 10998956 = true ↔ sSec tx n s = 1 := by
  unfold sSec
  cases e0 : isWd tx n s 10998956
  · refine ⟨fun q => (by cases q), fun q => ?_⟩
    (repeat' split at q) <;> first | omega | (rename_i h; cases h)
  · rw [wd_no e0 (b := 232608281) (by decide)]
    exact ⟨fun _ => rfl, fun _ => rfl⟩
theorem sec_2 (s : Nat) : isWd tx n s 8527995 = true ↔ sSec tx n s = 2 := by
  unfold sSec
  cases e0 : isWd tx n s 8527995
  · refine ⟨fun q => (by cases q), fun q => ?_⟩
    (repeat' split at q) <;> first | omega | (rename_i h; cases h)
  · rw [wd_no e0 (b := 232608281) (by decide), wd_no e0 (b := 10998956) (by decide)]
    exact ⟨fun _ => rfl, fun _ => rfl⟩
theorem sec_3 (s : Nat) : isWd tx n s 79329434 = true ↔ sSec tx n s = 3 := by
  unfold sSec
  cases e0 : isWd tx n s 79329434
  · refine ⟨fun q => (by cases q), fun q => ?_⟩
    (repeat' split at q) <;> first | omega | (rename_i h; cases h)
  · rw [wd_no e0 (b := 232608281) (by decide), wd_no e0 (b := 10998956) (by decide), wd_no e0 (b := 8527995) (by decide)]
    exact ⟨fun _ => rfl, fun _ => rfl⟩
theorem sec_4 (s : Nat) : isWd tx n s 223456 = true ↔ sSec tx n s = 4 := by
  unfold sSec
  cases e0 : isWd tx n s 223456
  · refine ⟨fun q => (by cases q), fun q => ?_⟩
    (repeat' split at q) <;> first | omega | (rename_i h; cases h)
  · rw [wd_no e0 (b := 232608281) (by decide), wd_no e0 (b := 10998956) (by decide), wd_no e0 (b := 8527995) (by decide), wd_no e0 (b := 79329434) (by decide)]
    exact ⟨fun _ => rfl, fun _ => rfl⟩
end
