/-! undo, save, restore -/
section
variable {h : aH} {T : Nat → Nat → Nat} {P Q : Nat}
theorem r_undoL (hS : Sh h) {U : Nat} (hU : U < 10) (h6 : h_iv h 398 6 = nI U) {k71 : aH → Option (Int32 × aH)} {R : Option (Int32 × aH) → Prop} (hk : ∀ h1, Fr (fun o => o = 399) h h1 → (∀ k, h_iv h1 399 k = if k < 603 then h_iv h 400 (603 * U + k) else h_iv h 399 k) → R (k71 h1)) : R (aL1 (m_X12_undo_L37 398 k71) FU (nI 0) h) := by
  refine aL1_run (fun m s1 h1 => ∃ i, i ≤ 603 ∧ m = 603 - i ∧ s1 = nI i ∧ Fr (fun o => o = 399) h h1 ∧ ∀ k, h_iv h1 399 k = if k < i then h_iv h 400 (603 * U + k) else h_iv h 399 k) ⟨0, Nat.zero_le _, rfl, rfl, Fr.rf, fun k => by rw [if_neg (Nat.not_lt_zero k)]⟩ (by omega) ?_
  rintro rec m s1 h1 ⟨i, hi, rfl, rfl, hF, hv⟩ ih
  have S1 := hF.sh hS
  by_cases hlt : i < 603
  · have e : h_iv h1 400 = h_iv h 400 := hF.iv (by decide)
    have e6 : h_iv h1 398 6 = nI U := by rw [hF.iv (by decide)]; exact h6
    simp (maxSteps := 3000000) (disch := first | assumption | omega) only [m_X12_undo_L37, bO_v, bR_v, bX_l, bX_r, bC_l, bC_r, aJ_v, aLet_v, nI_add, pk_mul, dvI_n, rmI_n, iMax_n, iMin_n, zO_0, zO_1, li_0, li_1, li_2, li_3, li_4, li_5, li_6, li_7, li_8, li_9, li_10, li_12, li_14, li_15, li_16, li_18, li_19, li_20, li_22, li_23, li_24, li_26, li_29, li_30, li_31, li_32, li_36, li_38, li_48, li_50, li_57, li_58, li_59, li_60, li_63, li_97, li_99, li_120, li_122, li_144, li_168, li_194, li_240, li_255, li_284, li_299, li_603, li_999, li_1200, li_1440, li_4095, li_4096, li_6030, li_16384, li_20160, zl0, zl1, zl2, zl3, zl4, ze01, ze02, ze03, ze04, ze10, ze12, ze13, ze14, ze20, ze21, ze23, ze24, ze30, ze31, ze32, ze34, ze40, ze41, ze42, ze43, zt0, zt1, zt2, zt3, zt4, zq0, zq1, zq2, zq3, zq4, it_t, it_f, Bool.true_eq_false, Bool.false_eq_true, na5, na4, na1441, na2, na10, sx_IOIA, sx_IOIS, sx_IONS, sx_IAIO, sx_IAIS, sx_IANS, sx_ISIO, sx_ISIA, sx_ISNS, sx_NSIO, sx_NSIA, sx_NSIS, r_p400 S1, r_p399 S1, r_c400_al S1, r_cM_gi S1, e6, r_c399_as S1, nI_ltI]
    rw [if_pos hlt]
    refine ih _ _ _ (by omega) ⟨i + 1, hlt, rfl, rfl, hF.trans (Fr.si rfl), fun k => ?_⟩
    by_cases c : k = i
    · rw [c, si_at, if_pos (by omega), e]
    · rw [si_ne (by omega), hv k]
      by_cases c2 : k < i
      · rw [if_pos c2, if_pos (by omega)]
      · rw [if_neg c2, if_neg (by omega)]
  · obtain rfl : i = 603 := by omega
    simp (maxSteps := 3000000) (disch := first | assumption | omega) only [m_X12_undo_L37, bO_v, bR_v, bX_l, bX_r, bC_l, bC_r, aLet_v, nI_add, pk_mul, dvI_n, rmI_n, iMax_n, iMin_n, zO_0, zO_1, li_0, li_1, li_2, li_3, li_4, li_5, li_6, li_7, li_8, li_9, li_10, li_12, li_14, li_15, li_16, li_18, li_19, li_20, li_22, li_23, li_24, li_26, li_29, li_30, li_31, li_32, li_36, li_38, li_48, li_50, li_57, li_58, li_59, li_60, li_63, li_97, li_99, li_120, li_122, li_144, li_168, li_194, li_240, li_255, li_284, li_299, li_603, li_999, li_1200, li_1440, li_4095, li_4096, li_6030, li_16384, li_20160, zl0, zl1, zl2, zl3, zl4, ze01, ze02, ze03, ze04, ze10, ze12, ze13, ze14, ze20, ze21, ze23, ze24, ze30, ze31, ze32, ze34, ze40, ze41, ze42, ze43, zt0, zt1, zt2, zt3, zt4, zq0, zq1, zq2, zq3, zq4, it_t, it_f, Bool.true_eq_false, Bool.false_eq_true, na5, na4, na1441, na2, na10, sx_IOIA, sx_IOIS, sx_IONS, sx_IAIO, sx_IAIS, sx_IANS, sx_ISIO, sx_ISIA, sx_ISNS, sx_NSIO, sx_NSIA, sx_NSIS, nI_ltI]
    rw [if_neg hlt]
    exact hk h1 hF hv
/-- a table in which some cells differ -/
def setU (T : Nat → Nat → Nat) (U : Nat) : Nat → Nat → Nat := fun o => if o = 398 then (fun k => if k = 6 then U else T 398 k) else T o
theorem setU_o {U o : Nat} (h : o ≠ 398) : setU T U o = T o := if_neg h
theorem setU_f {U k : Nat} (h : k ≠ 6) : setU T U 398 k = T 398 k := by
  unfold setU
  rw [if_pos rfl]
  exact if_neg h
theorem setU_6 {U : Nat} : setU T U 398 6 = U := by
  unfold setU
  rw [if_pos rfl]
  exact if_pos rfl
theorem setU_pe {U : Nat} : Pe T (setU T U) := ⟨setU_f (by decide), setU_f (by decide), setU_f (by decide), setU_f (by decide), fun o h1 h2 => setU_o (by omega)⟩
/-- a row out of a table, what lies behind it from the present row -/
def rwX (T : Nat → Nat → Nat) (o i j : Nat) : Nat := if j < 603 then T o (603 * i + j) else T 399 j
theorem rwX_g {o i : Nat} {j : Nat} (hj : ¬ garb (rw4 T o i) j) : rwX T o i j = rw4 T o i j := by
  have c : j < 603 := by
    by_cases c : j < 603
    · exact c
    · exact absurd (Or.inl (by omega)) hj
  unfold rwX rw4
  rw [if_pos c, if_pos c]
theorem rwX_B {o i : Nat} (hD : PlD T) (hR : RwD T (T 399)) (hB : RwB T (rw4 T o i)) : RwB T (rwX T o i) := hB.ext hD (fun j hj => rwX_g hj) (fun j => by
  by_cases c : j < 603
  · have := hB.1.big j
    unfold rw4 at this
    unfold rwX
    rw [if_pos c] at this ⊢
    exact this
  · unfold rwX
    rw [if_neg c]; exact hR.big j)
/-- the state is another one of the history, which has U changes then -/
theorem IC.back (I : IC h T P Q) {h1 : aH} {U : Nat} {S : Nat → Nat} (S1 : Sh h1) (C : Cq 134 h h1) {g : aH} (eg : g = h_si h1 178 0 (nI U)) (hU : U ≤ T 398 6) (hb : RwB T S) (hs : StR h1 134 P T S) : CK 0 h g ∧ IC g (setW (setU T U) S) P Q := by
  obtain ⟨a1, a2, a3, a4, a6, a7, a8, a9, a10, a11, a12, a13, a14, a15⟩ := I
  have pin : 4 ≤ P ∧ P + 65 ≤ 134 := by omega
  obtain ⟨c1, c2, c3, c4, c5, c6, c7⟩ := C
  subst eg
  have iv : ∀ o, (o < 134 ∨ (152 ≤ o ∧ o ≠ 178)) → h_iv (h_si h1 178 0 (nI U)) o = h_iv h o := fun o ho => by
    rw [← c6 o (by omega)]
    exact funext fun j => si_ne (by omega)
  have rv : ∀ o k, o ≠ 134 → h_rv (h_si h1 178 0 (nI U)) o k = h_rv h o k := fun o k ho => c7 o k (by omega)
  have pe : Pe T (setW (setU T U) S) := setU_pe.setW S
  have w9 : setW (setU T U) S 399 = S := setW_w
  have stk : ∀ {a : Nat} {S : Nat → Nat}, 182 ≤ a → StR h a P T S → StR (h_si h1 178 0 (nI U)) a P (setW (setU T U) S) S := fun {a S} ha y => sorry
  sorry
end
