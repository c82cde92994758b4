/-! what the parts of a text leave -/
theorem sb_inr {α β : Type} {x : ER ⊕ α} {f : α → ER ⊕ β} {b : β} (h : sb x f = .inr b) : ∃ a, x = .inr a ∧ f a = .inr b := by
  cases x with
  | inl e => cases h
  | inr a => exact ⟨a, rfl, h⟩
theorem put_e {M : Nat → Nat → Nat} {o k v : Nat} : put M o k v o k = v := if_pos ⟨rfl, rfl⟩
theorem put_n {M : Nat → Nat → Nat} {o k v a b : Nat} (h : ¬ (a = o ∧ b = k)) : put M o k v a b = M a b := if_neg h
section
variable {tx : Nat → Nat} {n s : Nat} {M : Nat → Nat → Nat}
theorem sNum_inr {lo hi : Nat} {a : Nat × Nat} (h : sNum tx n s lo hi = .inr a) : s < n ∧ lo ≤ a.1 ∧ a.1 ≤ hi ∧ a.2 = adv tx n s := by
  unfold sNum at h
  by_cases c : tok tx n s ≠ 2
  · rw [if_pos c] at h; cases h
  · rw [if_neg c] at h
    by_cases c2 : lo ≤ num tx n s ∧ num tx n s ≤ hi
    · rw [if_pos c2] at h
      injection h with h
      subst h
      exact ⟨tok_in (tx := tx) (by omega), c2.1, c2.2, rfl⟩
    · rw [if_neg c2] at h; cases h
theorem sSym_inr {t a : Nat} (ht : t ≠ 5) (h : sSym tx n s t = .inr a) : s < n ∧ a = adv tx n s := by
  unfold sSym at h
  by_cases c : tok tx n s = t
  · rw [if_pos c] at h
    injection h with h
    exact ⟨tok_in (tx := tx) (by omega), h.symm⟩
  · rw [if_neg c] at h; cases h
theorem nmd_in (h : nmd tx n s = true) : s < n := (tok1.mp (of_decide_eq_true h).1).1
theorem sNew_inr {so cnt a : Nat} (h : sNew tx n M so cnt s = .inr a) : nmd tx n s = true ∧ a = adv tx n s := by
  unfold sNew at h
  cases c : nmd tx n s
  · rw [c] at h; cases h
  · rw [c, if_neg (by decide)] at h
    by_cases c2 : fnd tx n M so cnt s < cnt
    · rw [if_pos c2] at h; cases h
    · rw [if_neg c2] at h
      injection h with h
      exact ⟨rfl, h.symm⟩
theorem sOf_inr {so cnt : Nat} {a : Nat × Nat} (h : sOf tx n M so cnt s = .inr a) : nmd tx n s = true ∧ a.1 < cnt ∧ a.2 = adv tx n s := by
  unfold sOf at h
  cases c : nmd tx n s
  · rw [c] at h; cases h
  · rw [c, if_neg (by decide)] at h
    by_cases c2 : fnd tx n M so cnt s < cnt
    · rw [if_pos c2] at h
      injection h with h
      subst h
      exact ⟨rfl, c2, rfl⟩
    · rw [if_neg c2] at h; cases h
theorem sSkill_v : sSkill tx n s = 0 ∨ sSkill tx n s = 1 ∨ sSkill tx n s = 2 ∨ sSkill tx n s = 4 ∨ sSkill tx n s = 8 := by
  unfold sSkill
  (repeat' split) <;> omega
theorem sSkills_inr : ∀ {f acc s : Nat} {a : Nat × Nat}, acc < 16 → s ≤ n → sSkills tx n f acc s = .inr a → a.1 < 16 ∧ s ≤ a.2 ∧ a.2 ≤ n
  | 0, acc, s, a, h1, h2, h => by
    injection h with h
    subst h
    exact ⟨h1, Nat.le_refl _, h2⟩
  | f + 1, acc, s, a, h1, h2, h => by
    rw [sSkills] at h
    by_cases c : tok tx n s ≠ 1
    · rw [if_pos c] at h
      injection h with h
      subst h
      exact ⟨h1, Nat.le_refl _, h2⟩
    · rw [if_neg c] at h
      by_cases c2 : sSkill tx n s = 0
      · rw [if_pos c2] at h; cases h
      · rw [if_neg c2] at h
        by_cases c3 : acc &&& sSkill tx n s ≠ 0
        · rw [if_pos c3] at h; cases h
        · rw [if_neg c3] at h
          have sl := tok_in (tx := tx) (n := n) (s := s) (by omega)
          have ad := adv_gt (tx := tx) sl
          have v : sSkill tx n s < 16 := by rcases sSkill_v (tx := tx) (n := n) (s := s) with q | q | q | q | q <;> omega
          obtain ⟨r1, r2, r3⟩ := sSkills_inr (Nat.or_lt_two_pow (n := 4) h1 v) ad.2.1 h
          exact ⟨r1, by omega, r3⟩
/-- a part was read, from s on -/
def WI (n s : Nat) (M' : Nat → Nat → Nat) (s' : Nat) : Prop := WM M' ∧ s < s' ∧ s' ≤ n
theorem wm_addP {M' : Nat → Nat → Nat} (w : WM M) (hb : M 398 8 < 12) (e : ∀ o k, ¬ ((o = 398 ∧ k = 8) ∨ o = 405 ∨ ((o = 406 ∨ o = 407) ∧ k = M 398 8)) → M' o k = M o k) (ec : M' 398 8 = M 398 8 + 1) (n1 : M' 406 (M 398 8) ≤ 120) (n2 : M' 407 (M 398 8) < 16) : WM M' := by
  obtain ⟨hD, w2, w3, w4, w5, w6⟩ := w
  refine ⟨pld_addP hD hb e ec n1 n2, by rw [e _ _ (by omega)]; exact w2, fun k => by rw [e _ _ (by omega)]; exact w3 k, fun k => by rw [e _ _ (by omega)]; exact w4 k, fun k hk => by rw [e _ _ (by omega)]; exact w5 k hk, fun g hg j hj => ?_⟩
  rw [e 398 9 (by omega)] at hg
  rw [e 410 g (by omega)] at hj
  rw [e 431 _ (by omega), ec]
  have := w6 g hg j hj
  omega
theorem wm_person (w : WM M) (hs : s < n) {M' : Nat → Nat → Nat} {s' : Nat} (h : sPerson tx n M s = .inr (M', s')) : WI n s M' s' := by
  have d0 := w.1.nP
  unfold sPerson at h
  by_cases c : 12 ≤ M 398 8
  · rw [if_pos c] at h; cases h
  · rw [if_neg c] at h
    have a0 := adv_gt (tx := tx) hs
    obtain ⟨s2, e1, h1⟩ := sb_inr h
    obtain ⟨b1, rfl⟩ := sNew_inr e1
    obtain ⟨v, e2, h2⟩ := sb_inr h1
    obtain ⟨a, e3, h3⟩ := sb_inr h2
    have a1 := adv_gt (tx := tx) (nmd_in b1)
    obtain ⟨c1, c2, c3, c4⟩ := sNum_inr e2
    have a2 := adv_gt (tx := tx) c1
    rw [c4] at e3
    obtain ⟨f1, f2, f3⟩ := sSkills_inr (by omega) a2.2.1 e3
    obtain ⟨rfl, rfl⟩ := Prod.mk.inj (Sum.inr.inj h3)
    refine ⟨wm_addP w (by omega) (fun o k q => ?_) put_e ?_ ?_, by omega, f3⟩
    · rw [put_n (by omega), put_n (by omega), put_n (by omega), put_n (by omega)]
    · rw [put_n (by omega), put_n (by omega), put_e]; exact c3
    · rw [put_n (by omega), put_e]; exact f1
theorem wm_trust (w : WM M) (hs : s < n) {M' : Nat → Nat → Nat} {s' : Nat} (h : sTrust tx n M s = .inr (M', s')) : WI n s M' s' := by
  have d0 := w.1.nP
  obtain ⟨hD, w2, w3, w4, w5, w6⟩ := w
  unfold sTrust at h
  by_cases c : 24 ≤ M 398 40
  · rw [if_pos c] at h; cases h
  · rw [if_neg c] at h
    have a0 := adv_gt (tx := tx) hs
    obtain ⟨a, e1, h1⟩ := sb_inr h
    obtain ⟨b1, b2, b3⟩ := sOf_inr e1
    have a1 := adv_gt (tx := tx) (nmd_in b1)
    obtain ⟨b, e2, h2⟩ := sb_inr h1
    obtain ⟨c1, c2, c3⟩ := sOf_inr e2
    have a2 := adv_gt (tx := tx) (nmd_in c1)
    by_cases k1 : a.1 = b.1
    · rw [if_pos k1] at h2; cases h2
    · rw [if_neg k1] at h2
      by_cases k2 : M 427 (12 * a.1 + b.1) ≠ 0
      · rw [if_pos k2] at h2; cases h2
      · rw [if_neg k2] at h2
        obtain ⟨v, e3, h3⟩ := sb_inr h2
        obtain ⟨f1, f2, f3, f4⟩ := sNum_inr e3
        have a3 := adv_gt (tx := tx) f1
        obtain ⟨rfl, rfl⟩ := Prod.mk.inj (Sum.inr.inj h3)
        rw [← f4] at a3
        refine ⟨⟨?_, ?_, fun k => ?_, fun k => ?_, fun k hk => ?_, fun g hg j hj => ?_⟩, by omega, by omega⟩
        · have e9 : ∀ o k, 404 ≤ o → o < 421 → put (put (put M 427 (12 * a.1 + b.1) 1) 426 (12 * a.1 + b.1) v.1) 398 40 (M 398 40 + 1) o k = M o k := fun o k q1 q2 => by rw [put_n (by omega), put_n (by omega), put_n (by omega)]
          have e8 : ∀ k, k < 12 → put (put (put M 427 (12 * a.1 + b.1) 1) 426 (12 * a.1 + b.1) v.1) 398 40 (M 398 40 + 1) 398 k = M 398 k := fun k q1 => by rw [put_n (by omega), put_n (by omega), put_n (by omega)]
          exact Pe.pld ⟨e8 8 (by omega), e8 9 (by omega), e8 10 (by omega), e8 11 (by omega), fun o q1 q2 => funext fun k => e9 o k q1 q2⟩ hD
        · rw [put_e]; omega
        · by_cases q : k = 12 * a.1 + b.1
          · rw [put_n (by omega), q, put_e]; exact f3
          · rw [put_n (by omega), put_n (by omega), put_n (by omega)]; exact w3 k
        · by_cases q : k = 12 * a.1 + b.1
          · rw [put_n (by omega), put_n (by omega), q, put_e]; omega
          · rw [put_n (by omega), put_n (by omega), put_n (by omega)]; exact w4 k
        · rw [put_n (by omega), put_n (by omega), put_n (by omega)]; exact w5 k hk
        · rw [put_n (by omega), put_n (by omega), put_n (by omega)] at hg hj
          rw [put_n (by omega), put_n (by omega), put_n (by omega), put_n (by omega), put_n (by omega), put_n (by omega)]
          exact w6 g hg j hj
end
