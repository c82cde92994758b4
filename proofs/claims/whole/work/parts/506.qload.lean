/-! load, of both -/
/-- codes of faults are small -/
def EC {α : Type} (x : ER ⊕ α) : Prop := ∀ e, x = .inl e → e.1 ≤ 6
theorem ec_l {α : Type} {c p : Nat} (h : c ≤ 6) : EC (.inl (c, p) : ER ⊕ α) := fun e q => by
  injection q with q
  rw [← q]; exact h
theorem ec_r {α : Type} {a : α} : EC (.inr a : ER ⊕ α) := fun e q => by cases q
theorem ec_sb {α β : Type} {x : ER ⊕ α} {f : α → ER ⊕ β} (hx : EC x) (hf : ∀ a, EC (f a)) : EC (sb x f) := by
  cases x with
  | inl e => intro e' q; exact hx e' (by injection q with q; rw [q])
  | inr a => exact hf a
section
variable {tx : Nat → Nat} {n : Nat} {M : Nat → Nat → Nat}
theorem ec_num {s lo hi : Nat} : EC (sNum tx n s lo hi) := by unfold sNum; (repeat' split) <;> first | exact ec_r | exact ec_l (by omega)
theorem ec_sym {s t : Nat} : EC (sSym tx n s t) := by unfold sSym; (repeat' split) <;> first | exact ec_r | exact ec_l (by omega)
theorem ec_new {so cnt s : Nat} : EC (sNew tx n M so cnt s) := by unfold sNew; (repeat' split) <;> first | exact ec_r | exact ec_l (by omega)
theorem ec_of {so cnt s : Nat} : EC (sOf tx n M so cnt s) := by unfold sOf; (repeat' split) <;> first | exact ec_r | exact ec_l (by omega)
theorem ec_skills : ∀ {f acc s : Nat}, EC (sSkills tx n f acc s)
  | 0, _, _ => ec_r
  | f + 1, acc, s => by
    unfold sSkills
    split
    · exact ec_r
    · split
      · exact ec_l (by omega)
      · split
        · exact ec_l (by omega)
        · exact ec_skills
theorem ec_rot {M0 : Nat → Nat → Nat} {g : Nat} : ∀ {f : Nat} {M : Nat → Nat → Nat} {c s : Nat}, EC (sRot tx n M0 g f M c s)
  | 0, _, _, _ => ec_r
  | f + 1, M, c, s => by
    unfold sRot
    split
    · exact ec_r
    · refine ec_sb ec_of (fun a => ?_)
      split
      · exact ec_l (by omega)
      · exact ec_rot
theorem ec_posts {e : Nat} : ∀ {f : Nat} {M : Nat → Nat → Nat} {c s : Nat}, EC (sPosts tx n e f M c s)
  | 0, _, _, _ => ec_r
  | f + 1, M, c, s => by
    unfold sPosts
    split
    · exact ec_r
    · split
      · exact ec_l (by omega)
      · split
        · exact ec_l (by omega)
        · exact ec_posts
theorem ec_diff {M0 : Nat → Nat → Nat} {so cnt o b : Nat} : ∀ {f : Nat} {M : Nat → Nat → Nat} {c s : Nat}, EC (sDiff tx n M0 so cnt o b f M c s)
  | 0, _, _, _ => ec_r
  | f + 1, M, c, s => by
    unfold sDiff
    split
    · exact ec_r
    · refine ec_sb ec_of (fun a => ?_)
      split
      · exact ec_l (by omega)
      · exact ec_diff
theorem ec_item {c s : Nat} : EC (sItem tx n c M s) := by
  unfold sItem
  split
  · unfold sPerson
    split
    · exact ec_l (by omega)
    · exact ec_sb ec_new (fun _ => ec_sb ec_num (fun _ => ec_sb ec_skills (fun _ => ec_r)))
  · split
    · unfold sTrust
      split
      · exact ec_l (by omega)
      · refine ec_sb ec_of (fun a => ec_sb ec_of (fun b => ?_))
        split
        · exact ec_l (by omega)
        · split
          · exact ec_l (by omega)
          · exact ec_sb ec_num (fun _ => ec_r)
    · split
      · unfold sPager
        split
        · exact ec_l (by omega)
        · exact ec_sb ec_new (fun _ => ec_sb ec_num (fun _ => ec_sb ec_num (fun _ => ec_sb ec_rot (fun _ => ec_r))))
      · split
        · unfold sEngine
          split
          · exact ec_l (by omega)
          · exact ec_sb ec_new (fun _ => ec_sb ec_num (fun _ => ec_sb ec_posts (fun _ => ec_r)))
        · unfold sKind
          split
          · exact ec_l (by omega)
          · exact ec_sb ec_new (fun _ => ec_sb ec_num (fun _ => ec_sb ec_num (fun _ => ec_sb ec_num (fun _ => ec_sb ec_sym (fun _ => ec_sb ec_diff (fun _ => ec_sb ec_sym (fun _ => ec_sb ec_diff (fun _ => ec_r))))))))
theorem ec_main : ∀ {f sec : Nat} {M : Nat → Nat → Nat} {s : Nat}, EC (sMain tx n f sec M s)
  | 0, _, _, _ => ec_r
  | f + 1, sec, M, s => by
    unfold sMain
    split
    · exact ec_r
    · split
      · exact ec_l (by omega)
      · exact ec_sb ec_item (fun _ => ec_sb ec_sym (fun _ => ec_main))
theorem ec_text : EC (sText tx n) := by
  unfold sText
  refine ec_sb ?_ (fun _ => ec_main)
  unfold sNight
  split
  · exact ec_l (by omega)
  · refine ec_sb ec_num (fun b => ec_sb ec_num (fun e => ?_))
    split
    · exact ec_l (by omega)
    · exact ec_sb ec_num (fun _ => ec_sb ec_num (fun _ => ec_sb ec_sym (fun _ => ec_r)))
end
theorem fil_bd {M : Nat → Nat → Nat} (hD : PlD M) {o k : Nat} (f : fil M o k) (ho : o < 435) : M o k ≤ 20000 := by
  have d1 := hD.nG
  have d2 := hD.nE
  rcases f with ⟨rfl, f⟩ | ⟨c, f⟩ | ⟨c, f⟩ | f | ⟨c, f⟩ | ⟨rfl, f1, f2⟩ | ⟨c, f⟩ | ⟨rfl, f1, f2⟩ | ⟨rfl, f1, f2⟩
  · have b1 := hD.b
    have b2 := hD.e
    have b3 := hD.wk
    have b4 := hD.lim
    rcases (show k = 0 ∨ k = 1 ∨ k = 2 ∨ k = 3 by omega) with r | r | r | r <;> subst r <;> omega
  · have b1 := hD.trv k f
    have b2 := hD.skl k f
    rcases c with rfl | rfl <;> omega
  · have b1 := hD.dem k f
    have b2 := hD.trn k f
    have b3 := hD.plc k f
    rcases c with rfl | rfl | rfl <;> omega
  · omega
  · have b1 := hD.drv k f
    have b2 := hD.pst k f
    rcases c with rfl | rfl <;> omega
  · have := hD.psk _ f1 _ f2
    rw [show 6 * (k / 6) + k % 6 = k by omega] at this
    omega
  · have b1 := hD.dur k f
    have b2 := hD.pat k f
    have b3 := hD.ned k f
    have b4 := hD.kgn k f
    have b5 := hD.ken k f
    rcases c with rfl | rfl | rfl | rfl | rfl <;> omega
  · have := hD.kg _ f1 _ f2
    rw [show 6 * (k / 6) + k % 6 = k by omega] at this
    omega
  · have := hD.ke _ f1 _ f2
    rw [show 5 * (k / 5) + k % 5 = k by omega] at this
    omega
section
variable {h h1 : aH} {T T' : Nat → Nat → Nat} {P Q : Nat}
/-- the text alone is another one, or scratch -/
theorem IV.txt (I : IV h T P Q) (hS : Sh h1) (e : ∀ o, 413 ≤ o → o < 435 → T' o = T o) (e8 : ∀ k, k ≠ 29 → k ≠ 31 → T' 412 k = T 412 k) (z : RefR h1 T') (r3 : h_rv h1 1 3 = P) (r4 : h_rv h1 1 4 = Q)
    (fI : ∀ o, (P ≤ o ∧ o < P + 65) ∨ (134 ≤ o ∧ o < 152) ∨ (180 ≤ o ∧ o < 412) → h_iv h1 o = h_iv h o) (fR : ∀ o k, (o = 134 ∧ k = 0) ∨ (181 ≤ o ∧ o < 412) → h_rv h1 o k = h_rv h o k) (fL : ∀ o k, (P ≤ o ∧ o < P + 65) ∨ o = 419 → h_lv h1 o k = h_lv h o k)
    (tx : h_iv h1 1 1 = nI (T' 412 29) ∧ T' 412 29 ≤ 1200 ∧ ∀ k, k < T' 412 29 → T' 435 k < 256 ∧ h_iv h1 2 k = (nI (T' 435 k)).toInt8.toInt32) (er : h_iv h1 3 9 = h_iv h1 412 31 ∧ h_iv h1 3 10 = h_iv h1 412 32) (J : JN h1) : IV h1 T' P Q := by
  have pe : Pe T T' := ⟨e8 _ (by decide) (by decide), e8 _ (by decide) (by decide), e8 _ (by decide) (by decide), e8 _ (by decide) (by decide), fun o q1 q2 => e o (by omega) q2⟩
  have e413 : T' 413 = T 413 := e _ (by decide) (by decide)
  have e414 : T' 414 = T 414 := e _ (by decide) (by decide)
  have e415 : T' 415 = T 415 := e _ (by decide) (by decide)
  have e417 : T' 417 = T 417 := e _ (by decide) (by decide)
  have e419 : T' 419 = T 419 := e _ (by decide) (by decide)
  have e6 : T' 412 6 = T 412 6 := e8 _ (by decide) (by decide)
  obtain ⟨a1, a2, a3, a4, a5, a6, a7, a8, a9, a10, a11, a12, a13, a14, a15, a16, a17⟩ := I
  have pin : 4 ≤ P ∧ P + 65 ≤ 134 := by omega
  have stk : ∀ {a : Nat} {S : Nat → Nat}, (a = 134 ∨ (184 ≤ a ∧ a + 18 ≤ 412)) → StR h a P T S → StR h1 a P T' S := fun {a S} ha x => pe.str (x.keep (fun o q1 q2 => fI o (by omega)) (fR _ _ (by omega)))
  refine ⟨hS, a2, r3, r4, z, pe.pld a6, pe.plr (a7.keep (fun o q1 q2 => fI o (by omega)) a6), by rw [e413]; exact pe.rwb a8, by rw [e413]; exact stk (Or.inl rfl) a9, ?_, ?_, ?_, ?_, ?_, tx, er, ?_, J⟩
  · rw [fI 180 (by omega), e6]; exact a10
  · intro i hi
    rw [fR _ _ (by omega)]; exact a11 i hi
  · intro i j hi hj hh
    rw [fR _ _ (by omega), fR _ _ (by omega)] at hh
    exact a12 i j hi hj hh
  · intro i hi
    rw [e6] at hi
    obtain ⟨b1, b2⟩ := a13 i hi
    obtain ⟨m, m1, m2⟩ := a11 i (by omega)
    have er4 : rw4 T' 414 i = rw4 T 414 i := funext fun j => by unfold rw4; rw [e414]
    rw [fR _ _ (by omega), er4]
    exact ⟨pe.rwb b1, stk (Or.inr (by omega)) b2⟩
  · intro s hs
    obtain ⟨b1, b2, b3⟩ := a14 s hs
    have er4 : rw4 T' 415 s = rw4 T 415 s := funext fun j => by unfold rw4; rw [e415]
    rw [fI 183 (by omega), e417, er4]
    exact ⟨b1, b2, fun q => ⟨pe.rwb (b3 q).1, stk (Or.inr (by omega)) (b3 q).2⟩⟩
  · obtain ⟨W, L, hW⟩ := a17.1
    refine ⟨W, L, fun s i hs hi => ?_⟩
    rw [pe.nm s] at hi
    obtain ⟨w1, w2, w3⟩ := hW s i hs hi
    have r := nmO_in (Q := P) a6 hs hi
    rw [fL _ _ (Or.inl r), fL _ _ (Or.inr rfl)]
    exact ⟨w1, w2, w3⟩
theorem IV.jn (I : IV h T P Q) : JN h := fun o k q1 q2 q3 => I.nm.2 o k q1 q2 q3
theorem IV.x2 (I : IV h T P Q) : ∃ X, h_iv h 145 2 = nI X ∧ X < 65536 := by
  obtain ⟨X, y1, y2, -⟩ := I.x.ans
  exact ⟨X, y1, y2⟩
def ldT (T : Nat → Nat → Nat) (c : Nat) : Nat → Nat → Nat := fun o k => if o = 412 ∧ k = 29 then 0 else if o = 412 ∧ k = 31 then c else T o k
theorem ldT_o {c o : Nat} (h : o ≠ 412) : ldT T c o = T o := funext fun k => by unfold ldT; rw [if_neg (by omega), if_neg (by omega)]
theorem ldT_k {c k : Nat} (h1 : k ≠ 29) (h2 : k ≠ 31) : ldT T c 412 k = T 412 k := by unfold ldT; rw [if_neg (by omega), if_neg (by omega)]
theorem q_load (I : IV h T P Q) : QG h (m_L_load 1 462 h) (m_X12_load 412) := by
  have hS := I.sh
  have hP := I.hP
  have hQ := I.hQ
  have q := pl_in Q hQ
  have qp := pl_in P hP
  have dis : P + 65 ≤ Q ∨ Q + 65 ≤ P := by
    rcases I.pls with r | r <;> omega
  have X : TX (T 435) (T 412 29) h := ⟨I.tx.2.1, fun k hk => I.tx.2.2 k hk⟩
  obtain ⟨r, h1, e1, S1, L1, a11, hh⟩ := k_load hS X I.tx.1 hP hQ I.pl I.sp I.x2
  obtain ⟨l1, l2, l3, l4, l5, l6, l7, l8⟩ := L1
  have X1 : TR (T 435) (T 412 29) h1 := ⟨I.tx.2.1, by rw [l6 _ _ (by omega)]; exact I.z.f29, fun k hk => ⟨(I.tx.2.2 k hk).1, by rw [l6 _ _ (by omega)]; exact I.z.c435 k⟩⟩
  have J1 : JN h1 := fun o k q1 q2 q3 => by rw [l6 _ _ (by omega)]; exact I.jn o k q1 q2 q3
  cases et : sText (T 435) (T 412 29) with
  | inl e =>
    obtain ⟨b, h2, e2, S2, J2, a29, ⟨n1, n2, n3, n4, n5⟩, iv2, lv2, hh2⟩ := y_load S1 X1 J1
    have xi : h_nx h2 ≤ h_nx h + 2 ∧ h_sl h2 ≤ h_sl h + 24 := by omega
    have iv9 : ∀ k, h_iv h2 3 k = h_iv h1 3 k := fun k => iv2 _ _ (by unfold RX TKc cel; omega)
    have iv1 : h_iv h2 1 1 = nI 0 := (iv2 _ _ (by unfold RX TKc cel; omega)).trans a11
    rw [et] at hh hh2
    obtain ⟨rfl, c9, c10, r3, r4, r134, ivh⟩ := hh
    obtain ⟨rfl, t0, t31, t32, tk, l419⟩ := hh2
    have e6 := ec_text e et
    have eL : m_L_load 1 462 h = some (nI 1, h1) := by simp (maxSteps := 3000000) (disch := first | assumption | omega) only [m_L_load, bO_v, bR_v, bX_l, bX_r, bC_l, bC_r, aJ_v, aLet_v, nI_add, pk_mul, dvI_n, rmI_n, iMax_n, iMin_n, zO_0, zO_1, li_0, li_1, li_2, li_3, li_4, li_5, li_6, li_7, li_8, li_9, li_10, li_12, li_14, li_15, li_16, li_18, li_19, li_20, li_22, li_23, li_24, li_26, li_29, li_30, li_31, li_32, li_36, li_38, li_48, li_50, li_57, li_58, li_59, li_60, li_63, li_97, li_99, li_120, li_122, li_144, li_168, li_194, li_240, li_255, li_284, li_299, li_603, li_999, li_1200, li_1440, li_4095, li_4096, li_6030, li_16384, li_20160, zl0, zl1, zl2, zl3, zl4, ze01, ze02, ze03, ze04, ze10, ze12, ze13, ze14, ze20, ze21, ze23, ze24, ze30, ze31, ze32, ze34, ze40, ze41, ze42, ze43, zt0, zt1, zt2, zt3, zt4, zq0, zq1, zq2, zq3, zq4, it_t, it_f, Bool.true_eq_false, Bool.false_eq_true, na5, na4, na1441, na2, na10, sx_IOIA, sx_IOIS, sx_IONS, sx_IAIO, sx_IAIS, sx_IANS, sx_ISIO, sx_ISIA, sx_ISNS, sx_NSIO, sx_NSIA, sx_NSIS, c_cX_gS hS, e1, eq_self]
    have iv : ∀ o k, ¬ RX o k → ¬ (o = 412 ∧ (k = 0 ∨ k = 29)) → h_iv h2 o k = h_iv h1 o k := fun o k q1 q2 => by
      by_cases c : TKc o k
      · exact tk o k c
      · exact iv2 o k (fun r => by rcases r with r | r | r <;> first | exact q1 r | exact c r | exact q2 r)
    have I2 : IV h2 (ldT T e.1) P Q := by
      refine I.txt S2 (fun o q1 q2 => ldT_o (by omega)) (fun k q1 q2 => ldT_k q1 q2) ⟨fun o k c => ?_, fun o k => ?_⟩ (by rw [n5]; exact r3) (by rw [n5]; exact r4) (fun o q1 => funext fun k => ?_) (fun o k q1 => ?_) (fun o k q1 => ?_) ⟨?_, ?_, ?_⟩ ⟨?_, ?_⟩ J2
      · by_cases c29 : o = 412 ∧ k = 29
        · rw [c29.1, c29.2]; exact a29
        · by_cases c31 : o = 412 ∧ k = 31
          · rw [c31.1, c31.2]; exact t31
          · have et2 : ldT T e.1 o k = T o k := by unfold ldT; rw [if_neg c29, if_neg c31]
            rw [et2, iv o k (by unfold rfC at c; unfold RX; omega) (by unfold rfC at c; omega), ivh o k (by unfold rfC at c; omega) (by unfold rfC at c; omega)]
            exact I.z.1 o k c
      · unfold ldT
        split
        · omega
        · split
          · omega
          · exact I.z.2 o k
      · rw [iv o k (by unfold RX; omega) (by omega)]
        by_cases c : 134 ≤ o
        · exact ivh o k c (by omega)
        · exact l6 o k (by omega)
      · rw [n5]
        rcases q1 with q1 | q1
        · rw [q1.1, q1.2]; exact r134
        · exact l7 o k (by omega)
      · by_cases c : o = 419
        · rw [c, l419]; exact l8 _ _ (by omega)
        · rw [lv2 o k (by omega)]; exact l8 o k (by omega)
      · exact iv1
      · exact Nat.zero_le _
      · intro k hk; exact absurd hk (Nat.not_lt_zero k)
      · rw [iv9, t31]; exact c9
      · rw [iv9, t32]; exact c10
    refine ⟨1, 0, by decide, _, h1, eL, rfl, fun q => absurd q (by decide), _, h2, e2, fun q => absurd q (by decide), t0, lv2 _ _ (by omega), ⟨_, P, Q, I2⟩, xi.1, xi.2⟩
  | inr M =>
    rw [et] at hh
    obtain ⟨rfl, nx1, sl1, r3, r4, pq, w, st, k178, k181, c9, c10⟩ := hh
    have eL : m_L_load 1 462 h = some (nI 0, h_sL h1 462 0 (nI (M 412 8)).toInt64) := by simp (maxSteps := 3000000) (disch := first | assumption | omega) only [m_L_load, bO_v, bR_v, bX_l, bX_r, bC_l, bC_r, aJ_v, aLet_v, nI_add, pk_mul, dvI_n, rmI_n, iMax_n, iMin_n, zO_0, zO_1, li_0, li_1, li_2, li_3, li_4, li_5, li_6, li_7, li_8, li_9, li_10, li_12, li_14, li_15, li_16, li_18, li_19, li_20, li_22, li_23, li_24, li_26, li_29, li_30, li_31, li_32, li_36, li_38, li_48, li_50, li_57, li_58, li_59, li_60, li_63, li_97, li_99, li_120, li_122, li_144, li_168, li_194, li_240, li_255, li_284, li_299, li_603, li_999, li_1200, li_1440, li_4095, li_4096, li_6030, li_16384, li_20160, zl0, zl1, zl2, zl3, zl4, ze01, ze02, ze03, ze04, ze10, ze12, ze13, ze14, ze20, ze21, ze23, ze24, ze30, ze31, ze32, ze34, ze40, ze41, ze42, ze43, zt0, zt1, zt2, zt3, zt4, zq0, zq1, zq2, zq3, zq4, it_t, it_f, Bool.true_eq_false, Bool.false_eq_true, na5, na4, na1441, na2, na10, sx_IOIA, sx_IOIS, sx_IONS, sx_IAIO, sx_IAIS, sx_IANS, sx_ISIO, sx_ISIA, sx_ISNS, sx_NSIO, sx_NSIA, sx_NSIS, c_cX_gS hS, e1, c_co_as S1]
    obtain ⟨b, h2, e2, S2, J2, a29, ⟨n1, n2, n3, n4, n5⟩, iv2, lv2, hh2⟩ := y_load (h := h_sL h1 462 0 (nI (M 412 8)).toInt64) (S1.sL _ _ _) X1 J1
    have n1' : h_nx h2 = h_nx h1 := n1
    have n2' : h_sl h2 = h_sl h1 := n2
    have n5' : h_rv h2 = h_rv h1 := n5
    have xi : h_nx h2 ≤ h_nx h + 2 ∧ h_sl h2 ≤ h_sl h + 24 := by omega
    have iv2' : ∀ o k, ¬ (RX o k ∨ TKc o k ∨ (o = 412 ∧ (k = 0 ∨ k = 29))) → h_iv h2 o k = h_iv h1 o k := iv2
    have iv9 : ∀ k, h_iv h2 3 k = h_iv h1 3 k := fun k => iv2 _ _ (by unfold RX TKc cel; omega)
    have iv1 : h_iv h2 1 1 = nI 0 := (iv2 _ _ (by unfold RX TKc cel; omega)).trans a11
    have ivc : ∀ o k, o < 412 → h_iv h2 o k = h_iv h1 o k := fun o k q => iv2 _ _ (by unfold RX TKc cel; omega)
    rw [et] at hh2
    obtain ⟨rfl, t0, t31, t32, w', ⟨u8, u9, u10, u11, u6⟩, tf, tn, trow, trot, t417, tv⟩ := hh2
    have hD := w.1
    have d0 := hD.nP
    have d1 := hD.nG
    have d2 := hD.nE
    have d3 := hD.nK
    generalize hT : (fun o k => (h_iv h2 o k).toNatClampNeg : Nat → Nat → Nat) = T'
    have tvo : ∀ {o k v}, h_iv h2 o k = nI v → v < 2147483648 → T' o k = v := fun {o k v} q1 q2 => by
      rw [← hT]
      show (h_iv h2 o k).toNatClampNeg = v
      rw [q1]; exact nI_clamp q2
    have old : ∀ o k, 413 ≤ o → o < 436 → ¬ TKc o k → h_iv h2 o k = nI (T o k) ∨ o = 416 := fun o k q1 q2 q3 => by
      by_cases c : o = 416
      · exact Or.inr c
      · left
        rw [iv2' o k (fun r => by rcases r with r | r | r <;> first | (unfold RX at r; omega) | exact q3 r | omega), l6 o k (by omega)]
        exact I.z.1 o k (Or.inl ⟨q1, q2, c⟩)
    have t8 := tvo u8 (by omega)
    have t9 := tvo u9 (by omega)
    have t10 := tvo u10 (by omega)
    have t11 := tvo u11 (by omega)
    have t6 : T' 412 6 = 0 := tvo u6 (by omega)
    have t29 : T' 412 29 = 0 := tvo a29 (by omega)
    have t445 : ∀ s, s < 2 → T' 417 s = 0 := fun s hs => tvo (t417 s hs) (by omega)
    have A : AG M T' := ⟨t8, t9, t10, t11, fun o k f ho => tvo (tf o k f ho) (Nat.lt_of_le_of_lt (fil_bd hD f ho) (by omega))⟩
    have rb : ∀ j, rwM M j ≤ 20000 ∨ (194 ≤ j ∧ j < 284 ∧ (j - 194) % 15 < 8) := fun j => by
      unfold rwM
      by_cases c1 : 50 ≤ j ∧ j < 194
      · left
        rw [if_pos c1]
        have := w.2.2.1 (j - 50)
        split <;> omega
      · rw [if_neg c1]
        by_cases c2 : 194 ≤ j ∧ j < 284 ∧ (j - 194) % 15 < 8
        · exact Or.inr c2
        · left; rw [if_neg c2]; omega
    have rg : RG M (T' 413) := ⟨fun j hj q => tvo (trow j hj q) (by
      rcases rb j with r | r
      · omega
      · exact absurd r q), fun g hg q hq => tvo (trot g hg q hq) (by
      have := w.2.2.2.2.2 g hg q hq
      omega)⟩
    have big : ∀ k, T' 413 k < 2147483600 := fun k => by
      by_cases c : k < 603
      · obtain ⟨v, v1, v2⟩ := tv 413 k (Or.inl ⟨rfl, c⟩)
        rw [tvo v2 (by omega)]; exact v1
      · rcases old 413 k (by omega) (by omega) (by unfold TKc cel; omega) with r | r
        · rw [tvo r (I.z.2 _ _)]; exact I.R.big k
        · omega
    have z : RefR h2 T' := by
      refine ⟨fun o k c => ?_, fun o k => ?_⟩
      · have vn : ∃ v, v < 2147483648 ∧ h_iv h2 o k = nI v := by
          by_cases c1 : (o = 413 ∧ k < 603) ∨ cel o k
          · obtain ⟨v, v1, v2⟩ := tv o k c1
            exact ⟨v, by omega, v2⟩
          · rcases c with c | ⟨rfl, c⟩
            · by_cases c3 : o = 417 ∧ k < 2
              · exact ⟨0, by omega, by rw [c3.1]; exact t417 k c3.2⟩
              · rcases old o k c.1 c.2.1 (fun r => by
                  rcases r with r | r | r | r
                  · omega
                  · exact c1 (Or.inl r)
                  · exact c3 r
                  · exact c1 (Or.inr r)) with r | r
                · exact ⟨_, I.z.2 _ _, r⟩
                · omega
            · rcases c with rfl | rfl | rfl | rfl | rfl | rfl | rfl
              · exact ⟨0, by omega, u6⟩
              · exact ⟨_, by omega, u8⟩
              · exact ⟨_, by omega, u9⟩
              · exact ⟨_, by omega, u10⟩
              · exact ⟨_, by omega, u11⟩
              · exact ⟨0, by omega, a29⟩
              · exact ⟨0, by omega, t31⟩
        obtain ⟨v, v1, v2⟩ := vn
        rw [tvo v2 v1]; exact v2
      · rw [← hT]
        show (h_iv h2 o k).toInt.toNat < 2147483648
        have := (h_iv h2 o k).toInt_lt
        omega
    have lvc : ∀ o k, o < 412 → h_lv h2 o k = h_lv h1 o k := fun o k q => (lv2 o k (by omega)).trans (u2n (by omega))
    have I2 : IV h2 T' Q P := by
      refine ⟨S2, by rcases I.pls with r | r <;> omega, by rw [n5']; exact r3, by rw [n5']; exact r4, z, hD.ag A, (pq.1.keep (fun o q1 q2 => funext fun k => ivc o k (by omega)) hD).ag hD A, RwB.ag w A rg big, (st.keep (fun o q1 q2 => funext fun k => ivc o k (by omega)) (by rw [n5'])).ag hD A rg, ⟨by rw [ivc _ _ (by omega), t6]; exact k178, by omega⟩, fun i hi => ?_, fun i j hi hj hh => ?_, fun i hi => ?_, fun s hs => ⟨by rw [ivc _ _ (by omega), t445 s hs]; exact k181 s hs, by rw [t445 s hs]; omega, fun q => ?_⟩, ⟨by rw [t29]; exact iv1, by omega, fun k hk => ?_⟩, ⟨by rw [iv9, t31]; exact c9, by rw [iv9, t32]; exact c10⟩, ⟨fun x => wd (T 435) (M 419 x), fun x => wle (T 435) (T 412 29) (M 419 x), fun so i hso hi => ?_⟩, J2⟩
      · rw [n5', l7 _ _ (by omega)]; exact I.kA i hi
      · rw [n5', l7 _ _ (by omega), l7 _ _ (by omega)] at hh
        exact I.kI i j hi hj hh
      · rw [t6] at hi; omega
      · rw [t445 s hs] at q; omega
      · rw [t29] at hk; omega
      · have hi' : i < nmN M so := by
          have : nmN T' so = nmN M so := by unfold nmN; rw [t8, t9, t10, t11]
          omega
        obtain ⟨p1, p2⟩ := pq.2.1 so hso i hi'
        obtain ⟨p3, p4⟩ := tn so hso i hi'
        have r := nmO_in (Q := Q) hD hso hi'
        obtain ⟨m1, m2⟩ := of_decide_eq_true p1
        obtain ⟨m3, m4⟩ := tok1.mp m1
        exact ⟨⟨run_pos m3 m4, m2, fun k hk => wd_in hk⟩, (lvc _ _ (by omega)).trans p2, p4⟩
    refine ⟨0, nI (M 412 8), by decide, _, _, eL, rfl, fun _ => sL_at, _, h2, e2, fun _ => rfl, t0, lv2 _ _ (by omega), ⟨_, Q, P, I2⟩, xi.1, xi.2⟩
end
