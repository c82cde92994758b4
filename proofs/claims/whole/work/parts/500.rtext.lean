/-! the reference's reader: the whole text -/
section
variable {h h0 : aH} {tx : Nat → Nat} {n s : Nat} {M : Nat → Nat → Nat}
/-- nothing but the night was read -/
def Q0 (g : aH) : Prop := h_iv g 412 39 = nI 0 ∧ h_iv g 412 40 = nI 0 ∧ h_iv g 412 41 = nI 0 ∧ h_iv g 412 42 = nI 0 ∧ h_iv g 412 43 = nI 0 ∧ ∀ k, k < 144 → h_iv g 441 k = nI 0 ∧ h_iv g 440 k = nI 0
theorem Q0.rz (q : Q0 h) {h1 : aH} (x : RZ h h1) : Q0 h1 := by
  obtain ⟨q1, q2, q3, q4, q5, q6⟩ := q
  have ri := x.ri
  exact ⟨by rw [ri _ _ (by unfold RSx; omega)]; exact q1, by rw [ri _ _ (by unfold RSx; omega)]; exact q2, by rw [ri _ _ (by unfold RSx; omega)]; exact q3, by rw [ri _ _ (by unfold RSx; omega)]; exact q4, by rw [ri _ _ (by unfold RSx; omega)]; exact q5, fun k hk => ⟨by rw [ri _ _ (by unfold RSx; omega)]; exact (q6 k hk).1, by rw [ri _ _ (by unfold RSx; omega)]; exact (q6 k hk).2⟩⟩
theorem Q0.si (q : Q0 h) {k : Nat} {x : Int32} : Q0 (h_si h 436 k x) := by
  obtain ⟨q1, q2, q3, q4, q5, q6⟩ := q
  exact ⟨by rw [si_ne (by omega)]; exact q1, by rw [si_ne (by omega)]; exact q2, by rw [si_ne (by omega)]; exact q3, by rw [si_ne (by omega)]; exact q4, by rw [si_ne (by omega)]; exact q5, fun k hk => ⟨by rw [si_ne (by omega)]; exact (q6 k hk).1, by rw [si_ne (by omega)]; exact (q6 k hk).2⟩⟩
/-- the night's numbers, from the k-th on -/
def sN (tx : Nat → Nat) (n s : Nat) : ER ⊕ ((Nat → Nat → Nat) × Nat) :=
  sb (sNum tx n s 0 23) fun b => sb (sNum tx n b.2 0 23) fun e => if b.1 = e.1 then .inl (2, b.2) else
  sb (sNum tx n e.2 0 30) fun k => sb (sNum tx n k.2 1 999) fun l => .inr (put (put (put (put (fun _ _ => 0) 418 0 b.1) 418 1 e.1) 418 2 k.1) 418 3 l.1, l.2)
theorem sNight_sN (s : Nat) : sNight tx n s = if isWd tx n s 7622660 = false then .inl (1, s) else sb (sN tx n (adv tx n s)) fun r => sb (sSym tx n r.2 3) fun s2 => .inr (r.1, s2) := by
  unfold sNight sN
  cases isWd tx n s 7622660
  · rfl
  · rw [if_neg (by decide), if_neg (by decide), sb_sb]
    congr 1
    funext b
    rw [sb_sb]
    congr 1
    funext e
    by_cases be : b.1 = e.1
    · rw [if_pos be, if_pos be]; rfl
    · rw [if_neg be, if_neg be, sb_sb]
      congr 1
      funext k
      rw [sb_sb]
      rfl
/-- one number of the night -/
theorem y_nn (X : TR tx n h0) (G : GS tx n h0 h s) {k lo hi : Nat} (hk : k < 4) (hl : lo < 100000) (hh : hi < 100000) (q : Q0 h) : ∃ r h1, m_X12_number 412 (nI lo) (nI hi) h = some (r, h1) ∧ Sh h1 ∧ (match sNum tx n s lo hi with
    | .inl e => BE n h0 (h_si h1 436 k r) e
    | .inr a => r = nI a.1 ∧ GS tx n h0 (h_si h1 436 k r) a.2 ∧ Q0 (h_si h1 436 k r) ∧ h_iv h1 412 35 = nI s ∧ ∀ j, j ≠ k → h_iv (h_si h1 436 k r) 436 j = h_iv h 436 j) := by
  obtain ⟨r, h1, e1, hh⟩ := y_number X G hl hh
  refine ⟨r, h1, e1, ?_⟩
  cases e : sNum tx n s lo hi with
  | inl x =>
    rw [e] at hh
    obtain ⟨b, Z, v, hv, rfl⟩ := hh
    exact ⟨b.1, b.si (by unfold RX; omega) (by omega) (by omega)⟩
  | inr a =>
    rw [e] at hh
    obtain ⟨G1, Z, rfl, a35⟩ := hh
    obtain ⟨-, -, a3, -⟩ := sNum_inr e
    exact ⟨G1.1, rfl, G1.si (by unfold RX; omega) (by omega) (by omega), (q.rz Z).si, a35, fun j hj => by rw [si_ne (by omega)]; exact Z.ri _ _ (by unfold RSx; omega)⟩
/-- the first k numbers of the night stand -/
def NK (tx : Nat → Nat) (n s : Nat) : Nat → (Nat → Nat) → Nat → Prop
  | 0, _, p => p = s
  | 1, v, p => sNum tx n s 0 23 = .inr (v 0, p)
  | 2, v, p => ∃ p1, sNum tx n s 0 23 = .inr (v 0, p1) ∧ sNum tx n p1 0 23 = .inr (v 1, p) ∧ v 0 ≠ v 1
  | 3, v, p => ∃ p1 p2, sNum tx n s 0 23 = .inr (v 0, p1) ∧ sNum tx n p1 0 23 = .inr (v 1, p2) ∧ v 0 ≠ v 1 ∧ sNum tx n p2 0 30 = .inr (v 2, p)
  | _, v, p => ∃ p1 p2 p3, sNum tx n s 0 23 = .inr (v 0, p1) ∧ sNum tx n p1 0 23 = .inr (v 1, p2) ∧ v 0 ≠ v 1 ∧ sNum tx n p2 0 30 = .inr (v 2, p3) ∧ sNum tx n p3 1 999 = .inr (v 3, p)
def nlo (k : Nat) : Nat := if k = 3 then 1 else 0
def nhi (k : Nat) : Nat := if k < 2 then 23 else if k = 2 then 30 else 999
theorem nk_bad {v : Nat → Nat} {p k : Nat} {e : ER} (hk : k < 4) (h : NK tx n s k v p) (q : sNum tx n p (nlo k) (nhi k) = .inl e) : sN tx n s = .inl e := by
  unfold sN
  rcases (show k = 0 ∨ k = 1 ∨ k = 2 ∨ k = 3 by omega) with r | r | r | r <;> subst r
  · have h1 : p = s := h
    subst h1
    have q1 : sNum tx n p 0 23 = .inl e := q
    rw [q1]; rfl
  · have h1 : sNum tx n s 0 23 = .inr (v 0, p) := h
    have q1 : sNum tx n p 0 23 = .inl e := q
    rw [h1]
    show sb (sNum tx n p 0 23) _ = _
    rw [q1]; rfl
  · obtain ⟨p1, h1, h2, h3⟩ := h
    have q1 : sNum tx n p 0 30 = .inl e := q
    rw [h1]
    show sb (sNum tx n p1 0 23) _ = _
    rw [h2]
    show (if v 0 = v 1 then _ else sb (sNum tx n p 0 30) _) = _
    rw [if_neg h3, q1]; rfl
  · obtain ⟨p1, p2, h1, h2, h3, h4⟩ := h
    have q1 : sNum tx n p 1 999 = .inl e := q
    rw [h1]
    show sb (sNum tx n p1 0 23) _ = _
    rw [h2]
    show (if v 0 = v 1 then _ else sb (sNum tx n p2 0 30) _) = _
    rw [if_neg h3, h4]
    show sb (sNum tx n p 1 999) _ = _
    rw [q1]; rfl
theorem nk_eq {v : Nat → Nat} {p p' : Nat} (h : NK tx n s 1 v p) (q : sNum tx n p 0 23 = .inr (v 0, p')) : sN tx n s = .inl (2, p) := by
  have h1 : sNum tx n s 0 23 = .inr (v 0, p) := h
  unfold sN
  rw [h1]
  show sb (sNum tx n p 0 23) _ = _
  rw [q]
  show (if v 0 = v 0 then _ else _) = _
  rw [if_pos rfl]
theorem nk_go {v : Nat → Nat} {p k : Nat} {a : Nat × Nat} (hk : k < 4) (h : NK tx n s k v p) (q : sNum tx n p (nlo k) (nhi k) = .inr a) (hne : k = 1 → v 0 ≠ a.1) : NK tx n s (k + 1) (fun j => if j = k then a.1 else v j) a.2 := by
  rcases (show k = 0 ∨ k = 1 ∨ k = 2 ∨ k = 3 by omega) with r | r | r | r <;> subst r
  · have h1 : p = s := h
    subst h1
    exact q
  · exact ⟨p, h, q, hne rfl⟩
  · obtain ⟨p1, h1, h2, h3⟩ := h
    exact ⟨p1, p, h1, h2, h3, q⟩
  · obtain ⟨p1, p2, h1, h2, h3, h4⟩ := h
    exact ⟨p1, p2, p, h1, h2, h3, h4, q⟩
theorem nk_end {v : Nat → Nat} {p : Nat} (h : NK tx n s 4 v p) : sN tx n s = .inr (put (put (put (put (fun _ _ => 0) 418 0 (v 0)) 418 1 (v 1)) 418 2 (v 2)) 418 3 (v 3), p) := by
  obtain ⟨p1, p2, p3, h1, h2, h3, h4, h5⟩ := h
  unfold sN
  rw [h1]
  show sb (sNum tx n p1 0 23) _ = _
  rw [h2]
  show (if v 0 = v 1 then _ else sb (sNum tx n p2 0 30) _) = _
  rw [if_neg h3, h4]
  show sb (sNum tx n p3 1 999) _ = _
  rw [h5]; rfl
theorem y_night (X : TR tx n h0) (G : GS tx n h0 h s) (q : Q0 h) {k179 : aH → Option (Unit × aH)} (Z : Option (Unit × aH) → Prop)
    (kB : ∀ g e, sN tx n s = .inl e → BE n h0 g e → Z (k179 g)) (kG : ∀ (g : aH) (v : Nat → Nat) (p : Nat), sN tx n s = .inr (put (put (put (put (fun _ _ => 0) 418 0 (v 0)) 418 1 (v 1)) 418 2 (v 2)) 418 3 (v 3), p) → GS tx n h0 g p → Q0 g → (∀ j, j < 4 → h_iv g 436 j = nI (v j)) → Z (k179 g)) : Z (aL1 (m_X12_readsText_L89 412 k179) FU (nI 0) h) := by
  have z : (nI 0 = nI 0) = True := eq_self _
  have z1 : (nI 1 = nI 0) = False := eq_false (by decide)
  refine aL1_run (R := Z) (fun m s1 g => (∃ k v p, k ≤ 4 ∧ m = 4 - k + 1 ∧ s1 = nI k ∧ NK tx n s k v p ∧ GS tx n h0 g p ∧ Q0 g ∧ ∀ j, j < k → h_iv g 436 j = nI (v j) ∧ v j < 100000) ∨ (m = 0 ∧ ∃ k e, k ≤ 4 ∧ s1 = nI k ∧ sN tx n s = .inl e ∧ BE n h0 g e)) (Or.inl ⟨0, fun _ => 0, s, Nat.zero_le _, rfl, rfl, rfl, G, q, fun j r => absurd r (Nat.not_lt_zero j)⟩) (by omega) ?_
  rintro rec m s1 g (⟨k, v, p, hk, rfl, rfl, nk, Gg, qg, vg⟩ | ⟨rfl, k, e, hk, rfl, es, b⟩) ih
  · have Sg := Gg.1
    by_cases k4 : k < 4
    · obtain ⟨r, h1, e1, S1, hh⟩ := y_nn X Gg (k := k) (lo := nlo k) (hi := nhi k) k4 (by unfold nlo; split <;> omega) (by unfold nhi; (repeat' split) <;> omega) qg
      have wr : asi h1 436 (nI k) r = some (h_si h1 436 k r) := r_c436_as S1 r k4
      simp (maxSteps := 3000000) (disch := first | assumption | omega) only [m_X12_readsText_L89, bO_v, bR_v, bX_l, bX_r, bC_l, bC_r, aLet_v, nI_add, pk_mul, dvI_n, rmI_n, iMax_n, iMin_n, zO_0, zO_1, li_0, li_1, li_2, li_3, li_4, li_5, li_6, li_7, li_8, li_9, li_10, li_12, li_14, li_15, li_16, li_18, li_19, li_20, li_22, li_23, li_24, li_26, li_29, li_30, li_31, li_32, li_36, li_38, li_48, li_50, li_57, li_58, li_59, li_60, li_63, li_97, li_99, li_120, li_122, li_144, li_168, li_194, li_240, li_255, li_284, li_299, li_603, li_999, li_1200, li_1440, li_4095, li_4096, li_6030, li_16384, li_20160, zl0, zl1, zl2, zl3, zl4, ze01, ze02, ze03, ze04, ze10, ze12, ze13, ze14, ze20, ze21, ze23, ze24, ze30, ze31, ze32, ze34, ze40, ze41, ze42, ze43, zt0, zt1, zt2, zt3, zt4, zq0, zq1, zq2, zq3, zq4, it_t, it_f, Bool.true_eq_false, Bool.false_eq_true, na5, na4, na1441, na2, na10, sx_IOIA, sx_IOIS, sx_IONS, sx_IAIO, sx_IAIS, sx_IANS, sx_ISIO, sx_ISIA, sx_ISNS, sx_NSIO, sx_NSIA, sx_NSIS, nI_ltI, nI_eq, eq_self, r_cM_gi Sg, Gg.2.2.2.1, z, r_p436 Sg]
      rw [if_pos k4]
      have number : ∀ (f : Int32 → aH → Option (Unit × aH)), (aJ (fun (x20 : Int32) (h43 : aH) => aJ (fun (x21 : Int32) (h44 : aH) => gS h44 12 412 (bR (m_X12_number 412 x20 x21 h44) fun x22 h45 => f x22 h45)) fun k140 => if k < 2 then k140 (nI 23) h43 else if k = 2 then k140 (nI 30) h43 else k140 (nI 999) h43) fun k117 => if k = 3 then k117 (nI 1) g else k117 (nI 0) g) = f r h1 := fun f => by
        have base : gS g 12 412 (bR (m_X12_number 412 (nI (nlo k)) (nI (nhi k)) g) fun x22 h45 => f x22 h45) = f r h1 := by rw [r_cM_gS Sg, e1, bR_v]
        rw [← base]
        rcases (show k = 0 ∨ k = 1 ∨ k = 2 ∨ k = 3 by omega) with c | c | c | c <;> subst c <;> rfl
      refine (congrArg Z (number _)).mpr ?_
      simp (maxSteps := 3000000) (disch := first | assumption | omega) only [bO_v, bR_v, bX_l, bX_r, bC_l, bC_r, aLet_v, nI_add, pk_mul, dvI_n, rmI_n, iMax_n, iMin_n, zO_0, zO_1, li_0, li_1, li_2, li_3, li_4, li_5, li_6, li_7, li_8, li_9, li_10, li_12, li_14, li_15, li_16, li_18, li_19, li_20, li_22, li_23, li_24, li_26, li_29, li_30, li_31, li_32, li_36, li_38, li_48, li_50, li_57, li_58, li_59, li_60, li_63, li_97, li_99, li_120, li_122, li_144, li_168, li_194, li_240, li_255, li_284, li_299, li_603, li_999, li_1200, li_1440, li_4095, li_4096, li_6030, li_16384, li_20160, zl0, zl1, zl2, zl3, zl4, ze01, ze02, ze03, ze04, ze10, ze12, ze13, ze14, ze20, ze21, ze23, ze24, ze30, ze31, ze32, ze34, ze40, ze41, ze42, ze43, zt0, zt1, zt2, zt3, zt4, zq0, zq1, zq2, zq3, zq4, it_t, it_f, Bool.true_eq_false, Bool.false_eq_true, na5, na4, na1441, na2, na10, sx_IOIA, sx_IOIS, sx_IONS, sx_IAIO, sx_IAIS, sx_IANS, sx_ISIO, sx_ISIA, sx_ISNS, sx_NSIO, sx_NSIA, sx_NSIS, wr]
      refine aJ_gen (R := Z) (fun k173 hk173 => ?_)
      cases en : sNum tx n p (nlo k) (nhi k) with
      | inl e =>
        rw [en] at hh
        have sn := nk_bad k4 nk en
        have S2 := hh.1
        have go : Z (k173 (h_si h1 436 k r)) := by
          rw [hk173]
          simp (maxSteps := 3000000) (disch := first | assumption | omega) only [bO_v, bR_v, bX_l, bX_r, bC_l, bC_r, aLet_v, nI_add, pk_mul, dvI_n, rmI_n, iMax_n, iMin_n, zO_0, zO_1, li_0, li_1, li_2, li_3, li_4, li_5, li_6, li_7, li_8, li_9, li_10, li_12, li_14, li_15, li_16, li_18, li_19, li_20, li_22, li_23, li_24, li_26, li_29, li_30, li_31, li_32, li_36, li_38, li_48, li_50, li_57, li_58, li_59, li_60, li_63, li_97, li_99, li_120, li_122, li_144, li_168, li_194, li_240, li_255, li_284, li_299, li_603, li_999, li_1200, li_1440, li_4095, li_4096, li_6030, li_16384, li_20160, zl0, zl1, zl2, zl3, zl4, ze01, ze02, ze03, ze04, ze10, ze12, ze13, ze14, ze20, ze21, ze23, ze24, ze30, ze31, ze32, ze34, ze40, ze41, ze42, ze43, zt0, zt1, zt2, zt3, zt4, zq0, zq1, zq2, zq3, zq4, it_t, it_f, Bool.true_eq_false, Bool.false_eq_true, na5, na4, na1441, na2, na10, sx_IOIA, sx_IOIS, sx_IONS, sx_IAIO, sx_IAIS, sx_IANS, sx_ISIO, sx_ISIA, sx_ISNS, sx_NSIO, sx_NSIA, sx_NSIS]
          exact ih 0 _ _ (by omega) (Or.inr ⟨rfl, k + 1, e, by omega, rfl, sn, hh⟩)
        by_cases c1 : k = 1
        · rw [if_pos c1]
          simp (maxSteps := 3000000) (disch := first | assumption | omega) only [bO_v, bR_v, bX_l, bX_r, bC_l, bC_r, aLet_v, nI_add, pk_mul, dvI_n, rmI_n, iMax_n, iMin_n, zO_0, zO_1, li_0, li_1, li_2, li_3, li_4, li_5, li_6, li_7, li_8, li_9, li_10, li_12, li_14, li_15, li_16, li_18, li_19, li_20, li_22, li_23, li_24, li_26, li_29, li_30, li_31, li_32, li_36, li_38, li_48, li_50, li_57, li_58, li_59, li_60, li_63, li_97, li_99, li_120, li_122, li_144, li_168, li_194, li_240, li_255, li_284, li_299, li_603, li_999, li_1200, li_1440, li_4095, li_4096, li_6030, li_16384, li_20160, zl0, zl1, zl2, zl3, zl4, ze01, ze02, ze03, ze04, ze10, ze12, ze13, ze14, ze20, ze21, ze23, ze24, ze30, ze31, ze32, ze34, ze40, ze41, ze42, ze43, zt0, zt1, zt2, zt3, zt4, zq0, zq1, zq2, zq3, zq4, it_t, it_f, Bool.true_eq_false, Bool.false_eq_true, na5, na4, na1441, na2, na10, sx_IOIA, sx_IOIS, sx_IONS, sx_IAIO, sx_IAIS, sx_IANS, sx_ISIO, sx_ISIA, sx_ISNS, sx_NSIO, sx_NSIA, sx_NSIS, r_p436 S2, r_c436_al S2, r_cM_gi S2, r_cM_gS S2, y_faultB hh]
          rw [ite_self]; exact go
        · rw [if_neg c1]; exact go
      | inr a =>
        rw [en] at hh
        obtain ⟨rfl, G2, q2, a35, ot⟩ := hh
        have S2 := G2.1
        obtain ⟨-, -, ahi, -⟩ := sNum_inr en
        have a5 : a.1 < 100000 := by
          have : nhi k ≤ 999 := by unfold nhi; (repeat' split) <;> omega
          omega
        have go : (k = 1 → v 0 ≠ a.1) → Z (k173 (h_si h1 436 k (nI a.1))) := fun hne => by
          rw [hk173]
          simp (maxSteps := 3000000) (disch := first | assumption | omega) only [bO_v, bR_v, bX_l, bX_r, bC_l, bC_r, aLet_v, nI_add, pk_mul, dvI_n, rmI_n, iMax_n, iMin_n, zO_0, zO_1, li_0, li_1, li_2, li_3, li_4, li_5, li_6, li_7, li_8, li_9, li_10, li_12, li_14, li_15, li_16, li_18, li_19, li_20, li_22, li_23, li_24, li_26, li_29, li_30, li_31, li_32, li_36, li_38, li_48, li_50, li_57, li_58, li_59, li_60, li_63, li_97, li_99, li_120, li_122, li_144, li_168, li_194, li_240, li_255, li_284, li_299, li_603, li_999, li_1200, li_1440, li_4095, li_4096, li_6030, li_16384, li_20160, zl0, zl1, zl2, zl3, zl4, ze01, ze02, ze03, ze04, ze10, ze12, ze13, ze14, ze20, ze21, ze23, ze24, ze30, ze31, ze32, ze34, ze40, ze41, ze42, ze43, zt0, zt1, zt2, zt3, zt4, zq0, zq1, zq2, zq3, zq4, it_t, it_f, Bool.true_eq_false, Bool.false_eq_true, na5, na4, na1441, na2, na10, sx_IOIA, sx_IOIS, sx_IONS, sx_IAIO, sx_IAIS, sx_IANS, sx_ISIO, sx_ISIA, sx_ISNS, sx_NSIO, sx_NSIA, sx_NSIS]
          refine ih (4 - (k + 1) + 1) _ _ (by omega) (Or.inl ⟨k + 1, fun j => if j = k then a.1 else v j, a.2, by omega, rfl, rfl, nk_go k4 nk en hne, G2, q2, fun j hj => ?_⟩)
          by_cases cj : j = k
          · rw [cj, si_at]
            show nI a.1 = nI (if k = k then a.1 else v k) ∧ (if k = k then a.1 else v k) < 100000
            rw [if_pos rfl]
            exact ⟨rfl, a5⟩
          · rw [ot j cj]
            show _ = nI (if j = k then a.1 else v j) ∧ (if j = k then a.1 else v j) < 100000
            rw [if_neg cj]
            exact vg j (by omega)
        by_cases c1 : k = 1
        · rw [if_pos c1]
          subst c1
          have f0 : h_iv (h_si h1 436 1 (nI a.1)) 436 0 = nI (v 0) := by rw [ot 0 (by omega)]; exact (vg 0 (by omega)).1
          have f1 : h_iv (h_si h1 436 1 (nI a.1)) 436 1 = nI a.1 := si_at
          have v0 := (vg 0 (by omega)).2
          have f35 : h_iv (h_si h1 436 1 (nI a.1)) 412 35 = nI p := by rw [si_ne (by omega)]; exact a35
          simp (maxSteps := 3000000) (disch := first | assumption | omega) only [bO_v, bR_v, bX_l, bX_r, bC_l, bC_r, aLet_v, nI_add, pk_mul, dvI_n, rmI_n, iMax_n, iMin_n, zO_0, zO_1, li_0, li_1, li_2, li_3, li_4, li_5, li_6, li_7, li_8, li_9, li_10, li_12, li_14, li_15, li_16, li_18, li_19, li_20, li_22, li_23, li_24, li_26, li_29, li_30, li_31, li_32, li_36, li_38, li_48, li_50, li_57, li_58, li_59, li_60, li_63, li_97, li_99, li_120, li_122, li_144, li_168, li_194, li_240, li_255, li_284, li_299, li_603, li_999, li_1200, li_1440, li_4095, li_4096, li_6030, li_16384, li_20160, zl0, zl1, zl2, zl3, zl4, ze01, ze02, ze03, ze04, ze10, ze12, ze13, ze14, ze20, ze21, ze23, ze24, ze30, ze31, ze32, ze34, ze40, ze41, ze42, ze43, zt0, zt1, zt2, zt3, zt4, zq0, zq1, zq2, zq3, zq4, it_t, it_f, Bool.true_eq_false, Bool.false_eq_true, na5, na4, na1441, na2, na10, sx_IOIA, sx_IOIS, sx_IONS, sx_IAIO, sx_IAIS, sx_IANS, sx_ISIO, sx_ISIA, sx_ISNS, sx_NSIO, sx_NSIA, sx_NSIS, r_p436 S2, r_c436_al S2, f0, f1, nI_eq, r_cM_gi S2, f35, r_cM_gS S2]
          by_cases ce : a.1 = v 0
          · rw [if_pos ce]
            obtain ⟨q', q1, q3, q4⟩ := G2.2.2.2.2.1
            obtain ⟨h3, e3, b3, F3⟩ := y_fault (n := n) S2 G2.2.1 G2.2.2.1 G2.2.2.2.1 q1 q3 (c := 2) (w := p)
            rw [e3, bR_v, hk173]
            simp (maxSteps := 3000000) (disch := first | assumption | omega) only [bO_v, bR_v, bX_l, bX_r, bC_l, bC_r, aLet_v, nI_add, pk_mul, dvI_n, rmI_n, iMax_n, iMin_n, zO_0, zO_1, li_0, li_1, li_2, li_3, li_4, li_5, li_6, li_7, li_8, li_9, li_10, li_12, li_14, li_15, li_16, li_18, li_19, li_20, li_22, li_23, li_24, li_26, li_29, li_30, li_31, li_32, li_36, li_38, li_48, li_50, li_57, li_58, li_59, li_60, li_63, li_97, li_99, li_120, li_122, li_144, li_168, li_194, li_240, li_255, li_284, li_299, li_603, li_999, li_1200, li_1440, li_4095, li_4096, li_6030, li_16384, li_20160, zl0, zl1, zl2, zl3, zl4, ze01, ze02, ze03, ze04, ze10, ze12, ze13, ze14, ze20, ze21, ze23, ze24, ze30, ze31, ze32, ze34, ze40, ze41, ze42, ze43, zt0, zt1, zt2, zt3, zt4, zq0, zq1, zq2, zq3, zq4, it_t, it_f, Bool.true_eq_false, Bool.false_eq_true, na5, na4, na1441, na2, na10, sx_IOIA, sx_IOIS, sx_IONS, sx_IAIO, sx_IAIS, sx_IANS, sx_ISIO, sx_ISIA, sx_ISNS, sx_NSIO, sx_NSIA, sx_NSIS]
            refine ih 0 _ _ (by omega) (Or.inr ⟨rfl, 2, (2, p), by omega, rfl, nk_eq (p' := a.2) nk ?_, b3⟩)
            have en2 : sNum tx n p 0 23 = .inr a := en
            rw [en2, ← ce]
          · rw [if_neg ce]
            exact go (fun _ q => ce q.symm)
        · rw [if_neg c1]; exact go (fun q => absurd q c1)
    · obtain rfl : k = 4 := by omega
      simp (maxSteps := 3000000) (disch := first | assumption | omega) only [m_X12_readsText_L89, bO_v, bR_v, bX_l, bX_r, bC_l, bC_r, aLet_v, nI_add, pk_mul, dvI_n, rmI_n, iMax_n, iMin_n, zO_0, zO_1, li_0, li_1, li_2, li_3, li_4, li_5, li_6, li_7, li_8, li_9, li_10, li_12, li_14, li_15, li_16, li_18, li_19, li_20, li_22, li_23, li_24, li_26, li_29, li_30, li_31, li_32, li_36, li_38, li_48, li_50, li_57, li_58, li_59, li_60, li_63, li_97, li_99, li_120, li_122, li_144, li_168, li_194, li_240, li_255, li_284, li_299, li_603, li_999, li_1200, li_1440, li_4095, li_4096, li_6030, li_16384, li_20160, zl0, zl1, zl2, zl3, zl4, ze01, ze02, ze03, ze04, ze10, ze12, ze13, ze14, ze20, ze21, ze23, ze24, ze30, ze31, ze32, ze34, ze40, ze41, ze42, ze43, zt0, zt1, zt2, zt3, zt4, zq0, zq1, zq2, zq3, zq4, it_t, it_f, Bool.true_eq_false, Bool.false_eq_true, na5, na4, na1441, na2, na10, sx_IOIA, sx_IOIS, sx_IONS, sx_IAIO, sx_IAIS, sx_IANS, sx_ISIO, sx_ISIA, sx_ISNS, sx_NSIO, sx_NSIA, sx_NSIS, nI_ltI]
      rw [if_neg k4]
      exact kG g v p (nk_end nk) Gg qg (fun j hj => (vg j hj).1)
  · simp (maxSteps := 3000000) (disch := first | assumption | omega) only [m_X12_readsText_L89, bO_v, bR_v, bX_l, bX_r, bC_l, bC_r, aLet_v, nI_add, pk_mul, dvI_n, rmI_n, iMax_n, iMin_n, zO_0, zO_1, li_0, li_1, li_2, li_3, li_4, li_5, li_6, li_7, li_8, li_9, li_10, li_12, li_14, li_15, li_16, li_18, li_19, li_20, li_22, li_23, li_24, li_26, li_29, li_30, li_31, li_32, li_36, li_38, li_48, li_50, li_57, li_58, li_59, li_60, li_63, li_97, li_99, li_120, li_122, li_144, li_168, li_194, li_240, li_255, li_284, li_299, li_603, li_999, li_1200, li_1440, li_4095, li_4096, li_6030, li_16384, li_20160, zl0, zl1, zl2, zl3, zl4, ze01, ze02, ze03, ze04, ze10, ze12, ze13, ze14, ze20, ze21, ze23, ze24, ze30, ze31, ze32, ze34, ze40, ze41, ze42, ze43, zt0, zt1, zt2, zt3, zt4, zq0, zq1, zq2, zq3, zq4, it_t, it_f, Bool.true_eq_false, Bool.false_eq_true, na5, na4, na1441, na2, na10, sx_IOIA, sx_IOIS, sx_IONS, sx_IAIO, sx_IAIS, sx_IANS, sx_ISIO, sx_ISIA, sx_ISNS, sx_NSIO, sx_NSIA, sx_NSIS, nI_ltI, r_cM_gi b.1, b.2.2.2.1, z1]
    rw [ite_self]
    exact kB g e es b
end
