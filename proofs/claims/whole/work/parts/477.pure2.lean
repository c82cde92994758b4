/-! what pagers, engines, kinds leave -/
section
variable {tx : Nat → Nat} {n s : Nat} {M : Nat → Nat → Nat}
theorem wm_pager (w : WM M) (hs : s < n) {M' : Nat → Nat → Nat} {s' : Nat} (h : sPager tx n M s = .inr (M', s')) : WI n s M' s' := by
  have d1 := w.1.nG
  obtain ⟨hD, w2, w3, w4, w5, w6⟩ := w
  unfold sPager at h
  by_cases c : 6 ≤ M 412 9
  · rw [if_pos c] at h; cases h
  · rw [if_neg c] at h
    have a0 := adv_gt (tx := tx) hs
    obtain ⟨s2, e1, h1⟩ := sb_inr h
    obtain ⟨b1, rfl⟩ := sNew_inr e1
    have a1 := adv_gt (tx := tx) (nmd_in b1)
    obtain ⟨v, e2, h2⟩ := sb_inr h1
    obtain ⟨c1, c2, c3, c4⟩ := sNum_inr e2
    have a2 := adv_gt (tx := tx) c1
    rw [← c4] at a2
    obtain ⟨u, e3, h3⟩ := sb_inr h2
    obtain ⟨f1, f2, f3, f4⟩ := sNum_inr e3
    have a3 := adv_gt (tx := tx) f1
    rw [← f4] at a3
    obtain ⟨⟨M1, c', s1⟩, e4, h4⟩ := sb_inr h3
    dsimp only at h4
    obtain ⟨r1, r2, r3, r4, r5, r6⟩ := sRot_inr (Nat.zero_le 8) a3.2.1 (Or.inr (by omega)) (fun j q => absurd q (Nat.not_lt_zero j)) e4
    obtain ⟨rfl, rfl⟩ := Prod.mk.inj (Sum.inr.inj h4)
    have e : ∀ o k, ¬ ((o = 412 ∧ k = 9) ∨ o = 419 ∨ ((o = 422 ∨ o = 423 ∨ o = 424) ∧ k = M 412 9) ∨ (o = 445 ∧ 8 * M 412 9 ≤ k)) → put (put M1 424 (M 412 9) c') 412 9 (M 412 9 + 1) o k = M o k := fun o k q => by
      rw [put_n (by omega), put_n (by omega), r5 o k (by omega), put_n (by omega), put_n (by omega), put_n (by omega)]
    have x424 : put (put M1 424 (M 412 9) c') 412 9 (M 412 9 + 1) 424 (M 412 9) = c' := by rw [put_n (by omega), put_e]
    refine ⟨⟨?_, ?_, ?_, ?_, ?_, ?_⟩, by omega, r4⟩
    · refine pld_addG hD (by omega) e put_e ?_ ?_ ?_
      · rw [put_n (by omega), put_n (by omega), r5 _ _ (by omega), put_n (by omega), put_e]; exact c3
      · rw [put_n (by omega), put_n (by omega), r5 _ _ (by omega), put_e]; omega
      · rw [x424]; omega
    · rw [e _ _ (by omega)]; exact w2
    · intro k; rw [e _ _ (by omega)]; exact w3 k
    · intro k; rw [e _ _ (by omega)]; exact w4 k
    · intro k hk; rw [e _ _ (by omega)]; exact w5 k hk
    · intro g hg j hj
      rw [put_e] at hg
      rw [e 412 8 (by omega)]
      by_cases cg : g = M 412 9
      · rw [cg, x424] at hj
        rw [cg, put_n (by omega), put_n (by omega)]; exact r6 j hj
      · rw [e 424 g (by omega)] at hj
        have := hD.plc g (by omega)
        rw [e 445 _ (by omega)]; exact w6 g (by omega) j hj
theorem wm_engine (w : WM M) (hs : s < n) {M' : Nat → Nat → Nat} {s' : Nat} (h : sEngine tx n M s = .inr (M', s')) : WI n s M' s' := by
  have d1 := w.1.nE
  obtain ⟨hD, w2, w3, w4, w5, w6⟩ := w
  unfold sEngine at h
  by_cases c : 5 ≤ M 412 10
  · rw [if_pos c] at h; cases h
  · rw [if_neg c] at h
    have a0 := adv_gt (tx := tx) hs
    obtain ⟨s2, e1, h1⟩ := sb_inr h
    obtain ⟨b1, rfl⟩ := sNew_inr e1
    have a1 := adv_gt (tx := tx) (nmd_in b1)
    obtain ⟨v, e2, h2⟩ := sb_inr h1
    obtain ⟨c1, c2, c3, c4⟩ := sNum_inr e2
    have a2 := adv_gt (tx := tx) c1
    rw [← c4] at a2
    obtain ⟨⟨M1, c', s1⟩, e4, h4⟩ := sb_inr h2
    dsimp only at h4
    obtain ⟨r1, r2, r3, r4, r5, r6⟩ := sPosts_inr (Nat.zero_le 6) a2.2.1 (Or.inr (by omega)) (fun j q => absurd q (Nat.not_lt_zero j)) e4
    obtain ⟨rfl, rfl⟩ := Prod.mk.inj (Sum.inr.inj h4)
    have e : ∀ o k, ¬ ((o = 412 ∧ k = 10) ∨ o = 419 ∨ ((o = 425 ∨ o = 426) ∧ k = M 412 10) ∨ (o = 427 ∧ 6 * M 412 10 ≤ k)) → put (put M1 426 (M 412 10) c') 412 10 (M 412 10 + 1) o k = M o k := fun o k q => by
      rw [put_n (by omega), put_n (by omega), r5 o k (by omega), put_n (by omega), put_n (by omega)]
    have x426 : put (put M1 426 (M 412 10) c') 412 10 (M 412 10 + 1) 426 (M 412 10) = c' := by rw [put_n (by omega), put_e]
    refine ⟨⟨?_, ?_, ?_, ?_, ?_, ?_⟩, by omega, r4⟩
    · refine pld_addE hD (by omega) e put_e ?_ ?_ ?_
      · rw [put_n (by omega), put_n (by omega), r5 _ _ (by omega), put_e]; exact c3
      · rw [x426]; omega
      · intro j hj
        rw [x426] at hj
        rw [put_n (by omega), put_n (by omega)]; exact r6 j hj
    · rw [e _ _ (by omega)]; exact w2
    · intro k; rw [e _ _ (by omega)]; exact w3 k
    · intro k; rw [e _ _ (by omega)]; exact w4 k
    · intro k hk; rw [e _ _ (by omega)]; exact w5 k hk
    · intro g hg j hj
      rw [e 412 9 (by omega)] at hg
      rw [e 424 g (by omega)] at hj
      rw [e 445 _ (by omega), e 412 8 (by omega)]; exact w6 g hg j hj
theorem wm_kind (w : WM M) (hs : s < n) {M' : Nat → Nat → Nat} {s' : Nat} (h : sKind tx n M s = .inr (M', s')) : WI n s M' s' := by
  have d1 := w.1.nK
  have d2 := w.1.nG
  have d3 := w.1.nE
  obtain ⟨hD, w2, w3, w4, w5, w6⟩ := w
  unfold sKind at h
  by_cases c : 6 ≤ M 412 11
  · rw [if_pos c] at h; cases h
  · rw [if_neg c] at h
    have a0 := adv_gt (tx := tx) hs
    obtain ⟨s2, e1, h1⟩ := sb_inr h
    obtain ⟨b1, rfl⟩ := sNew_inr e1
    have a1 := adv_gt (tx := tx) (nmd_in b1)
    obtain ⟨u, e2, h2⟩ := sb_inr h1
    obtain ⟨c1, c2, c3, c4⟩ := sNum_inr e2
    have a2 := adv_gt (tx := tx) c1
    rw [← c4] at a2
    obtain ⟨v, e3, h3⟩ := sb_inr h2
    obtain ⟨f1, f2, f3, f4⟩ := sNum_inr e3
    have a3 := adv_gt (tx := tx) f1
    rw [← f4] at a3
    obtain ⟨x, e4, h4⟩ := sb_inr h3
    obtain ⟨g1, g2, g3, g4⟩ := sNum_inr e4
    have a4 := adv_gt (tx := tx) g1
    rw [← g4] at a4
    obtain ⟨s3, e5, h5⟩ := sb_inr h4
    obtain ⟨i1, rfl⟩ := sSym_inr (by decide) e5
    have a5 := adv_gt (tx := tx) i1
    obtain ⟨⟨M1, c', s1⟩, e6, h6⟩ := sb_inr h5
    dsimp only at h6
    obtain ⟨r1, r2, r3, r4, r5, r6⟩ := sDiff_inr a5.2.1 (Or.inr (by omega)) (fun j q => absurd q (Nat.not_lt_zero j)) (fun i j _ q => absurd q (Nat.not_lt_zero j)) e6
    obtain ⟨s4, e7, h7⟩ := sb_inr h6
    obtain ⟨j1, rfl⟩ := sSym_inr (by decide) e7
    have a6 := adv_gt (tx := tx) j1
    obtain ⟨⟨M2, c2', s5⟩, e8, h8⟩ := sb_inr h7
    dsimp only at h8
    obtain ⟨t1, t2, t3, t4, t5, t6⟩ := sDiff_inr a6.2.1 (Or.inr (by omega)) (fun j q => absurd q (Nat.not_lt_zero j)) (fun i j _ q => absurd q (Nat.not_lt_zero j)) e8
    have k1 : c' ≤ M 412 9 := pig r5 r6
    have k2 : c2' ≤ M 412 10 := pig t5 t6
    obtain ⟨rfl, rfl⟩ := Prod.mk.inj (Sum.inr.inj h8)
    have e : ∀ o k, ¬ ((o = 412 ∧ k = 11) ∨ o = 419 ∨ ((o = 428 ∨ o = 429 ∨ o = 430 ∨ o = 431 ∨ o = 433) ∧ k = M 412 11) ∨ (o = 432 ∧ 6 * M 412 11 ≤ k) ∨ (o = 434 ∧ 5 * M 412 11 ≤ k)) → put (put M2 433 (M 412 11) c2') 412 11 (M 412 11 + 1) o k = M o k := fun o k q => by
      rw [put_n (by omega), put_n (by omega), t4 o k (by omega), put_n (by omega), r4 o k (by omega), put_n (by omega), put_n (by omega), put_n (by omega), put_n (by omega)]
    have x433 : put (put M2 433 (M 412 11) c2') 412 11 (M 412 11 + 1) 433 (M 412 11) = c2' := by rw [put_n (by omega), put_e]
    have x431 : put (put M2 433 (M 412 11) c2') 412 11 (M 412 11 + 1) 431 (M 412 11) = c' := by rw [put_n (by omega), put_n (by omega), t4 _ _ (by omega), put_e]
    have x432 : ∀ j, put (put M2 433 (M 412 11) c2') 412 11 (M 412 11 + 1) 432 j = M1 432 j := fun j => by rw [put_n (by omega), put_n (by omega), t4 _ _ (by omega), put_n (by omega)]
    have x434 : ∀ j, put (put M2 433 (M 412 11) c2') 412 11 (M 412 11 + 1) 434 j = M2 434 j := fun j => by rw [put_n (by omega), put_n (by omega)]
    have x9 : put (put M2 433 (M 412 11) c2') 412 11 (M 412 11 + 1) 412 9 = M 412 9 := e _ _ (by omega)
    have x10 : put (put M2 433 (M 412 11) c2') 412 11 (M 412 11 + 1) 412 10 = M 412 10 := e _ _ (by omega)
    refine ⟨⟨?_, ?_, ?_, ?_, ?_, ?_⟩, by omega, t3⟩
    · refine pld_addK hD (by omega) e put_e ?_ ?_ ?_ ?_ ?_ ?_ ?_ ?_
      · rw [put_n (by omega), put_n (by omega), t4 _ _ (by omega), put_n (by omega), r4 _ _ (by omega), put_n (by omega), put_n (by omega), put_e]; exact ⟨c2, c3⟩
      · rw [put_n (by omega), put_n (by omega), t4 _ _ (by omega), put_n (by omega), r4 _ _ (by omega), put_n (by omega), put_e]; exact f3
      · rw [put_n (by omega), put_n (by omega), t4 _ _ (by omega), put_n (by omega), r4 _ _ (by omega), put_e]; exact ⟨g2, g3⟩
      · rw [x431]; omega
      · intro j hj
        rw [x431] at hj
        rw [x432, x9]; exact r5 j hj
      · rw [x433]; omega
      · intro j hj
        rw [x433] at hj
        rw [x434, x10]; exact t5 j hj
      · intro i j hij hj
        rw [x433] at hj
        rw [x434, x434]; exact t6 i j hij hj
    · rw [e _ _ (by omega)]; exact w2
    · intro k; rw [e _ _ (by omega)]; exact w3 k
    · intro k; rw [e _ _ (by omega)]; exact w4 k
    · intro k hk; rw [e _ _ (by omega)]; exact w5 k hk
    · intro g hg j hj
      rw [x9] at hg
      rw [e 424 g (by omega)] at hj
      rw [e 445 _ (by omega), e 412 8 (by omega)]; exact w6 g hg j hj
theorem wm_item (w : WM M) (hs : s < n) {c : Nat} {M' : Nat → Nat → Nat} {s' : Nat} (h : sItem tx n c M s = .inr (M', s')) : WI n s M' s' := by
  unfold sItem at h
  by_cases c0 : c = 0
  · rw [if_pos c0] at h; exact wm_person w hs h
  · rw [if_neg c0] at h
    by_cases c1 : c = 1
    · rw [if_pos c1] at h; exact wm_trust w hs h
    · rw [if_neg c1] at h
      by_cases c2 : c = 2
      · rw [if_pos c2] at h; exact wm_pager w hs h
      · rw [if_neg c2] at h
        by_cases c3 : c = 3
        · rw [if_pos c3] at h; exact wm_engine w hs h
        · rw [if_neg c3] at h; exact wm_kind w hs h
theorem wm_night {s : Nat} {M' : Nat → Nat → Nat} {s' : Nat} (h : sNight tx n s = .inr (M', s')) : WM M' ∧ s' ≤ n ∧ skp tx n s' = s' := by
  unfold sNight at h
  cases c : isWd tx n s 7622660
  · rw [c] at h; cases h
  · rw [c, if_neg (by decide)] at h
    obtain ⟨b, e1, h1⟩ := sb_inr h
    obtain ⟨b1, b2, b3, b4⟩ := sNum_inr e1
    obtain ⟨e, e2, h2⟩ := sb_inr h1
    obtain ⟨c1, c2, c3, c4⟩ := sNum_inr e2
    by_cases be : b.1 = e.1
    · rw [if_pos be] at h2; cases h2
    · rw [if_neg be] at h2
      obtain ⟨k, e3, h3⟩ := sb_inr h2
      obtain ⟨f1, f2, f3, f4⟩ := sNum_inr e3
      obtain ⟨l, e4, h4⟩ := sb_inr h3
      obtain ⟨g1, g2, g3, g4⟩ := sNum_inr e4
      obtain ⟨s2, e5, h5⟩ := sb_inr h4
      obtain ⟨i1, rfl⟩ := sSym_inr (by decide) e5
      have a := adv_gt (tx := tx) i1
      obtain ⟨rfl, rfl⟩ := Prod.mk.inj (Sum.inr.inj h5)
      have z : ∀ o k', ¬ (o = 418) → put (put (put (put (fun _ _ => 0) 418 0 b.1) 418 1 e.1) 418 2 k.1) 418 3 l.1 o k' = 0 := fun o k' q => by
        rw [put_n (by omega), put_n (by omega), put_n (by omega), put_n (by omega)]
      refine ⟨⟨?_, by rw [z _ _ (by omega)]; omega, fun k => by rw [z _ _ (by omega)]; omega, fun k => by rw [z _ _ (by omega)]; omega, fun k hk => z _ _ (by omega), fun g hg => ?_⟩, a.2⟩
      · have z8 : ∀ {c u : Nat}, u < put (put (put (put (fun _ _ => 0) 418 0 b.1) 418 1 e.1) 418 2 k.1) 418 3 l.1 412 c → False := fun {c u} q => by
          rw [z _ _ (by omega)] at q; omega
        refine ⟨?_, ?_, ?_, ?_, ?_, ?_, ?_, ?_, ?_, fun _ q => (z8 q).elim, fun _ q => (z8 q).elim, fun _ q => (z8 q).elim, fun _ q => (z8 q).elim, fun _ q => (z8 q).elim, fun _ q => (z8 q).elim, fun _ q => (z8 q).elim, fun _ q => (z8 q).elim, fun _ q => (z8 q).elim, fun _ q => (z8 q).elim, fun _ q => (z8 q).elim, fun _ q => (z8 q).elim, fun _ q => (z8 q).elim, fun _ q => (z8 q).elim, fun _ q => (z8 q).elim, fun _ q => (z8 q).elim⟩
        · rw [put_n (by omega), put_n (by omega), put_n (by omega), put_e]; omega
        · rw [put_n (by omega), put_n (by omega), put_e]; omega
        · rw [put_n (by omega), put_n (by omega), put_n (by omega), put_e, put_n (by omega), put_n (by omega), put_e]; exact be
        · rw [put_n (by omega), put_e]; omega
        · rw [put_e]; omega
        · rw [z _ _ (by omega)]; omega
        · rw [z _ _ (by omega)]; omega
        · rw [z _ _ (by omega)]; omega
        · rw [z _ _ (by omega)]; omega
      · rw [z _ _ (by omega)] at hg; omega
end
