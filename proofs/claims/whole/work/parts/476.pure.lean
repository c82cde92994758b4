/-! what the parts of a text leave -/
theorem sb_inr {α β : Type} {x : ER ⊕ α} {f : α → ER ⊕ β} {b : β} (h : sb x f = .inr b) : ∃ a, x = .inr a ∧ f a = .inr b := by
  cases x with
  | inl e => cases h
  | inr a => exact ⟨a, rfl, h⟩
theorem put_e {M : Nat → Nat → Nat} {o k v : Nat} : put M o k v o k = v := if_pos ⟨rfl, rfl⟩
theorem put_n {M : Nat → Nat → Nat} {o k v a b : Nat} (h : ¬ (a = o ∧ b = k)) : put M o k v a b = M a b := if_neg h
section
variable {tx : Nat → Nat} {n s : Nat} {M : Nat → Nat → Nat}
theorem sNum_inr {lo hi : Nat} {a : Nat × Nat} (h : sNum tx n s lo hi = .inr a) : s < n ∧ lo ≤ a.1 ∧ a.1 ≤ hi ∧ a.2 = adv tx n s := by
  unfold sNum at h
  by_cases c : tok tx n s ≠ 2
  · rw [if_pos c] at h; cases h
  · rw [if_neg c] at h
    by_cases c2 : lo ≤ num tx n s ∧ num tx n s ≤ hi
    · rw [if_pos c2] at h
      injection h with h
      subst h
      exact ⟨tok_in (tx := tx) (by omega), c2.1, c2.2, rfl⟩
    · rw [if_neg c2] at h; cases h
theorem sSym_inr {t a : Nat} (ht : t ≠ 5) (h : sSym tx n s t = .inr a) : s < n ∧ a = adv tx n s := by
  unfold sSym at h
  by_cases c : tok tx n s = t
  · rw [if_pos c] at h
    injection h with h
    exact ⟨tok_in (tx := tx) (by omega), h.symm⟩
  · rw [if_neg c] at h; cases h
theorem nmd_in (h : nmd tx n s = true) : s < n := (tok1.mp (of_decide_eq_true h).1).1
theorem sNew_inr {so cnt a : Nat} (h : sNew tx n M so cnt s = .inr a) : nmd tx n s = true ∧ a = adv tx n s := by
  unfold sNew at h
  cases c : nmd tx n s
  · rw [c] at h; cases h
  · rw [c, if_neg (by decide)] at h
    by_cases c2 : fnd tx n M so cnt s < cnt
    · rw [if_pos c2] at h; cases h
    · rw [if_neg c2] at h
      injection h with h
      exact ⟨rfl, h.symm⟩
theorem sOf_inr {so cnt : Nat} {a : Nat × Nat} (h : sOf tx n M so cnt s = .inr a) : nmd tx n s = true ∧ a.1 < cnt ∧ a.2 = adv tx n s := by
  unfold sOf at h
  cases c : nmd tx n s
  · rw [c] at h; cases h
  · rw [c, if_neg (by decide)] at h
    by_cases c2 : fnd tx n M so cnt s < cnt
    · rw [if_pos c2] at h
      injection h with h
      subst h
      exact ⟨rfl, c2, rfl⟩
    · rw [if_neg c2] at h; cases h
theorem sSkill_v : sSkill tx n s = 0 ∨ sSkill tx n s = 1 ∨ sSkill tx n s = 2 ∨ sSkill tx n s = 4 ∨ sSkill tx n s = 8 := by
  unfold sSkill
  (repeat' split) <;> omega
theorem sSkills_inr : ∀ {f acc s : Nat} {a : Nat × Nat}, acc < 16 → s ≤ n → sSkills tx n f acc s = .inr a → a.1 < 16 ∧ s ≤ a.2 ∧ a.2 ≤ n
  | 0, acc, s, a, h1, h2, h => by
    injection h with h
    subst h
    exact ⟨h1, Nat.le_refl _, h2⟩
  | f + 1, acc, s, a, h1, h2, h => by
    rw [sSkills] at h
    by_cases c : tok tx n s ≠ 1
    · rw [if_pos c] at h
      injection h with h
      subst h
      exact ⟨h1, Nat.le_refl _, h2⟩
    · rw [if_neg c] at h
      by_cases c2 : sSkill tx n s = 0
      · rw [if_pos c2] at h; cases h
      · rw [if_neg c2] at h
        by_cases c3 : acc &&& sSkill tx n s ≠ 0
        · rw [if_pos c3] at h; cases h
        · rw [if_neg c3] at h
          have sl := tok_in (tx := tx) (n := n) (s := s) (by omega)
          have ad := adv_gt (tx := tx) sl
          have v : sSkill tx n s < 16 := by rcases sSkill_v (tx := tx) (n := n) (s := s) with q | q | q | q | q <;> omega
          obtain ⟨r1, r2, r3⟩ := sSkills_inr (Nat.or_lt_two_pow (n := 4) h1 v) ad.2.1 h
          exact ⟨r1, by omega, r3⟩
/-- a part was read, from s on -/
def WI (n s : Nat) (M' : Nat → Nat → Nat) (s' : Nat) : Prop := WM M' ∧ s < s' ∧ s' ≤ n
theorem wm_addP {M' : Nat → Nat → Nat} (w : WM M) (hb : M 412 8 < 12) (e : ∀ o k, ¬ ((o = 412 ∧ k = 8) ∨ o = 419 ∨ ((o = 420 ∨ o = 421) ∧ k = M 412 8)) → M' o k = M o k) (ec : M' 412 8 = M 412 8 + 1) (n1 : M' 420 (M 412 8) ≤ 120) (n2 : M' 421 (M 412 8) < 16) : WM M' := by
  obtain ⟨hD, w2, w3, w4, w5, w6⟩ := w
  refine ⟨pld_addP hD hb e ec n1 n2, by rw [e _ _ (by omega)]; exact w2, fun k => by rw [e _ _ (by omega)]; exact w3 k, fun k => by rw [e _ _ (by omega)]; exact w4 k, fun k hk => by rw [e _ _ (by omega)]; exact w5 k hk, fun g hg j hj => ?_⟩
  rw [e 412 9 (by omega)] at hg
  rw [e 424 g (by omega)] at hj
  rw [e 445 _ (by omega), ec]
  have := w6 g hg j hj
  omega
theorem wm_person (w : WM M) (hs : s < n) {M' : Nat → Nat → Nat} {s' : Nat} (h : sPerson tx n M s = .inr (M', s')) : WI n s M' s' := by
  have d0 := w.1.nP
  unfold sPerson at h
  by_cases c : 12 ≤ M 412 8
  · rw [if_pos c] at h; cases h
  · rw [if_neg c] at h
    have a0 := adv_gt (tx := tx) hs
    obtain ⟨s2, e1, h1⟩ := sb_inr h
    obtain ⟨b1, rfl⟩ := sNew_inr e1
    obtain ⟨v, e2, h2⟩ := sb_inr h1
    obtain ⟨a, e3, h3⟩ := sb_inr h2
    have a1 := adv_gt (tx := tx) (nmd_in b1)
    obtain ⟨c1, c2, c3, c4⟩ := sNum_inr e2
    have a2 := adv_gt (tx := tx) c1
    rw [c4] at e3
    obtain ⟨f1, f2, f3⟩ := sSkills_inr (by omega) a2.2.1 e3
    obtain ⟨rfl, rfl⟩ := Prod.mk.inj (Sum.inr.inj h3)
    refine ⟨wm_addP w (by omega) (fun o k q => ?_) put_e ?_ ?_, by omega, f3⟩
    · rw [put_n (by omega), put_n (by omega), put_n (by omega), put_n (by omega)]
    · rw [put_n (by omega), put_n (by omega), put_e]; exact c3
    · rw [put_n (by omega), put_e]; exact f1
theorem wm_trust (w : WM M) (hs : s < n) {M' : Nat → Nat → Nat} {s' : Nat} (h : sTrust tx n M s = .inr (M', s')) : WI n s M' s' := by
  have d0 := w.1.nP
  obtain ⟨hD, w2, w3, w4, w5, w6⟩ := w
  unfold sTrust at h
  by_cases c : 24 ≤ M 412 40
  · rw [if_pos c] at h; cases h
  · rw [if_neg c] at h
    have a0 := adv_gt (tx := tx) hs
    obtain ⟨a, e1, h1⟩ := sb_inr h
    obtain ⟨b1, b2, b3⟩ := sOf_inr e1
    have a1 := adv_gt (tx := tx) (nmd_in b1)
    obtain ⟨b, e2, h2⟩ := sb_inr h1
    obtain ⟨c1, c2, c3⟩ := sOf_inr e2
    have a2 := adv_gt (tx := tx) (nmd_in c1)
    by_cases k1 : a.1 = b.1
    · rw [if_pos k1] at h2; cases h2
    · rw [if_neg k1] at h2
      by_cases k2 : M 441 (12 * a.1 + b.1) ≠ 0
      · rw [if_pos k2] at h2; cases h2
      · rw [if_neg k2] at h2
        obtain ⟨v, e3, h3⟩ := sb_inr h2
        obtain ⟨f1, f2, f3, f4⟩ := sNum_inr e3
        have a3 := adv_gt (tx := tx) f1
        obtain ⟨rfl, rfl⟩ := Prod.mk.inj (Sum.inr.inj h3)
        rw [← f4] at a3
        refine ⟨⟨?_, ?_, fun k => ?_, fun k => ?_, fun k hk => ?_, fun g hg j hj => ?_⟩, by omega, by omega⟩
        · have e9 : ∀ o k, 418 ≤ o → o < 435 → put (put (put M 441 (12 * a.1 + b.1) 1) 440 (12 * a.1 + b.1) v.1) 412 40 (M 412 40 + 1) o k = M o k := fun o k q1 q2 => by rw [put_n (by omega), put_n (by omega), put_n (by omega)]
          have e8 : ∀ k, k < 12 → put (put (put M 441 (12 * a.1 + b.1) 1) 440 (12 * a.1 + b.1) v.1) 412 40 (M 412 40 + 1) 412 k = M 412 k := fun k q1 => by rw [put_n (by omega), put_n (by omega), put_n (by omega)]
          exact Pe.pld ⟨e8 8 (by omega), e8 9 (by omega), e8 10 (by omega), e8 11 (by omega), fun o q1 q2 => funext fun k => e9 o k q1 q2⟩ hD
        · rw [put_e]; omega
        · by_cases q : k = 12 * a.1 + b.1
          · rw [put_n (by omega), q, put_e]; exact f3
          · rw [put_n (by omega), put_n (by omega), put_n (by omega)]; exact w3 k
        · by_cases q : k = 12 * a.1 + b.1
          · rw [put_n (by omega), put_n (by omega), q, put_e]; omega
          · rw [put_n (by omega), put_n (by omega), put_n (by omega)]; exact w4 k
        · rw [put_n (by omega), put_n (by omega), put_n (by omega)]; exact w5 k hk
        · rw [put_n (by omega), put_n (by omega), put_n (by omega)] at hg hj
          rw [put_n (by omega), put_n (by omega), put_n (by omega), put_n (by omega), put_n (by omega), put_n (by omega)]
          exact w6 g hg j hj
theorem pig : ∀ {N c : Nat} {f : Nat → Nat}, (∀ j, j < c → f j < N) → (∀ i j, i < j → j < c → f i ≠ f j) → c ≤ N
  | 0, 0, _, _, _ => Nat.le_refl _
  | 0, c + 1, f, h, _ => absurd (h 0 (by omega)) (Nat.not_lt_zero _)
  | N + 1, c, f, h, d => by
    by_cases q : ∃ j, j < c ∧ f j = N
    · obtain ⟨j, q1, q2⟩ := q
      have := pig (N := N) (c := c - 1) (f := fun i => f (if i < j then i else i + 1)) (fun i hi => by
        show f (if i < j then i else i + 1) < N
        split
        · have a := h i (by omega)
          have b := d i j (by omega) (by omega)
          omega
        · have a := h (i + 1) (by omega)
          have b := d j (i + 1) (by omega) (by omega)
          omega) (fun i k hik hk => by
        show f (if i < j then i else i + 1) ≠ f (if k < j then k else k + 1)
        split
        · split
          · exact d i k hik (by omega)
          · exact d i (k + 1) (by omega) (by omega)
        · rw [if_neg (by omega)]
          exact d (i + 1) (k + 1) (by omega) (by omega))
      omega
    · have := pig (N := N) (c := c) (f := f) (fun i hi => by
        have a := h i hi
        have b : f i ≠ N := fun e => q ⟨i, hi, e⟩
        omega) d
      omega
theorem sRot_inr {M0 : Nat → Nat → Nat} {g : Nat} : ∀ {f : Nat} {M : Nat → Nat → Nat} {c s : Nat} {M' : Nat → Nat → Nat} {c' s' : Nat}, c ≤ 8 → s ≤ n → 1 ≤ c ∨ 1 ≤ f → (∀ j, j < c → M 445 (8 * g + j) < M0 412 8) → sRot tx n M0 g f M c s = .inr (M', c', s') → 1 ≤ c' ∧ c' ≤ 8 ∧ s ≤ s' ∧ s' ≤ n ∧ (∀ o k, ¬ (o = 445 ∧ 8 * g ≤ k) → M' o k = M o k) ∧ ∀ j, j < c' → M' 445 (8 * g + j) < M0 412 8
  | 0, M, c, s, M', c', s', h1, h2, h3, h4, h => by
    obtain ⟨rfl, e2⟩ := Prod.mk.inj (Sum.inr.inj h)
    obtain ⟨rfl, rfl⟩ := Prod.mk.inj e2
    exact ⟨by omega, h1, Nat.le_refl _, h2, fun _ _ _ => rfl, h4⟩
  | f + 1, M, c, s, M', c', s', h1, h2, h3, h4, h => by
    rw [sRot] at h
    by_cases c0 : c ≠ 0 ∧ tok tx n s ≠ 1
    · rw [if_pos c0] at h
      obtain ⟨rfl, e2⟩ := Prod.mk.inj (Sum.inr.inj h)
      obtain ⟨rfl, rfl⟩ := Prod.mk.inj e2
      exact ⟨by omega, h1, Nat.le_refl _, h2, fun _ _ _ => rfl, h4⟩
    · rw [if_neg c0] at h
      obtain ⟨a, e1, h5⟩ := sb_inr h
      obtain ⟨b1, b2, b3⟩ := sOf_inr e1
      have ad := adv_gt (tx := tx) (nmd_in b1)
      by_cases c8 : c = 8
      · rw [if_pos c8] at h5; cases h5
      · rw [if_neg c8] at h5
        obtain ⟨r1, r2, r3, r4, r5, r6⟩ := sRot_inr (c := c + 1) (by omega) (by omega) (Or.inl (by omega)) (fun j hj => by
          by_cases cj : j = c
          · rw [cj, put_e]; exact b2
          · rw [put_n (by omega)]; exact h4 j (by omega)) h5
        exact ⟨r1, r2, by omega, r4, fun o k q => by rw [r5 o k q, put_n (by omega)], r6⟩
theorem sPosts_inr {e : Nat} : ∀ {f : Nat} {M : Nat → Nat → Nat} {c s : Nat} {M' : Nat → Nat → Nat} {c' s' : Nat}, c ≤ 6 → s ≤ n → 1 ≤ c ∨ 1 ≤ f → (∀ j, j < c → M 427 (6 * e + j) = 0 ∨ M 427 (6 * e + j) = 1 ∨ M 427 (6 * e + j) = 2 ∨ M 427 (6 * e + j) = 4 ∨ M 427 (6 * e + j) = 8) → sPosts tx n e f M c s = .inr (M', c', s') → 1 ≤ c' ∧ c' ≤ 6 ∧ s ≤ s' ∧ s' ≤ n ∧ (∀ o k, ¬ (o = 427 ∧ 6 * e ≤ k) → M' o k = M o k) ∧ ∀ j, j < c' → M' 427 (6 * e + j) = 0 ∨ M' 427 (6 * e + j) = 1 ∨ M' 427 (6 * e + j) = 2 ∨ M' 427 (6 * e + j) = 4 ∨ M' 427 (6 * e + j) = 8
  | 0, M, c, s, M', c', s', h1, h2, h3, h4, h => by
    obtain ⟨rfl, e2⟩ := Prod.mk.inj (Sum.inr.inj h)
    obtain ⟨rfl, rfl⟩ := Prod.mk.inj e2
    exact ⟨by omega, h1, Nat.le_refl _, h2, fun _ _ _ => rfl, h4⟩
  | f + 1, M, c, s, M', c', s', h1, h2, h3, h4, h => by
    rw [sPosts] at h
    by_cases c0 : c ≠ 0 ∧ tok tx n s ≠ 1
    · rw [if_pos c0] at h
      obtain ⟨rfl, e2⟩ := Prod.mk.inj (Sum.inr.inj h)
      obtain ⟨rfl, rfl⟩ := Prod.mk.inj e2
      exact ⟨by omega, h1, Nat.le_refl _, h2, fun _ _ _ => rfl, h4⟩
    · rw [if_neg c0] at h
      by_cases c1 : isWd tx n s 1132 = false ∧ sSkill tx n s = 0
      · rw [if_pos c1] at h; cases h
      · rw [if_neg c1] at h
        by_cases c8 : c = 6
        · rw [if_pos c8] at h; cases h
        · rw [if_neg c8] at h
          have sn : s < n := by
            rcases Nat.lt_or_ge s n with q | q
            · exact q
            · have t5 := tok5 (tx := tx) |>.mpr q
              have z : ∀ w, isWd tx n s w = false := fun w => by
                unfold isWd nmd
                rw [decide_eq_false (by omega)]; rfl
              exact absurd ⟨z _, by unfold sSkill; rw [z, z, z, z]; rfl⟩ c1
          have ad := adv_gt (tx := tx) sn
          obtain ⟨r1, r2, r3, r4, r5, r6⟩ := sPosts_inr (c := c + 1) (by omega) (by omega) (Or.inl (by omega)) (fun j hj => by
            by_cases cj : j = c
            · rw [cj, put_e]; exact sSkill_v
            · rw [put_n (by omega)]; exact h4 j (by omega)) h
          exact ⟨r1, r2, by omega, r4, fun o k q => by rw [r5 o k q, put_n (by omega)], r6⟩
theorem sDiff_inr {M0 : Nat → Nat → Nat} {so cnt o b : Nat} : ∀ {f : Nat} {M : Nat → Nat → Nat} {c s : Nat} {M' : Nat → Nat → Nat} {c' s' : Nat}, s ≤ n → 1 ≤ c ∨ 1 ≤ f → (∀ j, j < c → M o (b + j) < cnt) → (∀ i j, i < j → j < c → M o (b + i) ≠ M o (b + j)) → sDiff tx n M0 so cnt o b f M c s = .inr (M', c', s') → 1 ≤ c' ∧ s ≤ s' ∧ s' ≤ n ∧ (∀ o2 k, ¬ (o2 = o ∧ b ≤ k) → M' o2 k = M o2 k) ∧ (∀ j, j < c' → M' o (b + j) < cnt) ∧ ∀ i j, i < j → j < c' → M' o (b + i) ≠ M' o (b + j)
  | 0, M, c, s, M', c', s', h2, h3, h4, h6, h => by
    obtain ⟨rfl, e2⟩ := Prod.mk.inj (Sum.inr.inj h)
    obtain ⟨rfl, rfl⟩ := Prod.mk.inj e2
    exact ⟨by omega, Nat.le_refl _, h2, fun _ _ _ => rfl, h4, h6⟩
  | f + 1, M, c, s, M', c', s', h2, h3, h4, h6, h => by
    rw [sDiff] at h
    by_cases c0 : c ≠ 0 ∧ tok tx n s ≠ 1
    · rw [if_pos c0] at h
      obtain ⟨rfl, e2⟩ := Prod.mk.inj (Sum.inr.inj h)
      obtain ⟨rfl, rfl⟩ := Prod.mk.inj e2
      exact ⟨by omega, Nat.le_refl _, h2, fun _ _ _ => rfl, h4, h6⟩
    · rw [if_neg c0] at h
      obtain ⟨a, e1, h5⟩ := sb_inr h
      obtain ⟨b1, b2, b3⟩ := sOf_inr e1
      have ad := adv_gt (tx := tx) (nmd_in b1)
      by_cases c8 : fa_first (fun j => decide (M o (b + j) = a.1)) c < c
      · rw [if_pos c8] at h5; cases h5
      · rw [if_neg c8] at h5
        have no : ∀ j, j < c → M o (b + j) ≠ a.1 := fun j hj => by
          have := fa_first_no (fun j => decide (M o (b + j) = a.1)) c j (by omega)
          exact of_decide_eq_false this
        obtain ⟨r1, r3, r4, r5, r6, r7⟩ := sDiff_inr (c := c + 1) (by omega) (Or.inl (by omega)) (fun j hj => by
          by_cases cj : j = c
          · rw [cj, put_e]; exact b2
          · rw [put_n (by omega)]; exact h4 j (by omega)) (fun i j hij hj => by
          by_cases cj : j = c
          · rw [cj, put_e, put_n (by omega)]; exact no i (by omega)
          · rw [put_n (by omega), put_n (by omega)]; exact h6 i j hij (by omega)) h5
        exact ⟨r1, by omega, r4, fun o2 k q => by rw [r5 o2 k q, put_n (by omega)], r6, r7⟩
end
