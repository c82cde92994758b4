/-! the text: signs, words, numbers -/
def isBl (c : Nat) : Bool := decide (c = 10 ∨ c = 32)
def isLt (c : Nat) : Bool := decide (97 ≤ c ∧ c ≤ 122)
def isDg (c : Nat) : Bool := decide (48 ≤ c ∧ c ≤ 57)
/-- how many signs from p on are of a sort -/
def run (tx : Nat → Nat) (q : Nat → Bool) (n p : Nat) : Nat := fa_first (fun k => !q (tx (p + k))) (n - p)
section
variable {tx : Nat → Nat} {q : Nat → Bool} {n p : Nat}
theorem run_le : run tx q n p ≤ n - p := fa_first_le _ _
theorem run_in {k : Nat} (h : k < run tx q n p) : q (tx (p + k)) = true := by
  have := fa_first_no _ _ k h
  simpa using this
theorem run_end (h : p + run tx q n p < n) : q (tx (p + run tx q n p)) = false := by
  have := fa_first_yes (fun k => !q (tx (p + k))) (n - p) (by unfold run at h; omega)
  simpa [run] using this
theorem run_is {j : Nat} (h1 : p + j ≤ n) (h2 : ∀ k, k < j → q (tx (p + k)) = true) (h3 : p + j < n → q (tx (p + j)) = false) : run tx q n p = j := by
  have l := run_le (tx := tx) (q := q) (n := n) (p := p)
  rcases Nat.lt_trichotomy (run tx q n p) j with c | c | c
  · have a := run_end (tx := tx) (q := q) (n := n) (p := p) (by omega)
    rw [h2 _ c] at a; cases a
  · exact c
  · have a := run_in c
    rw [h3 (by omega)] at a; cases a
def skp (tx : Nat → Nat) (n p : Nat) : Nat := p + run tx isBl n p
theorem skp_le (h : p ≤ n) : p ≤ skp tx n p ∧ skp tx n p ≤ n := by
  have := run_le (tx := tx) (q := isBl) (n := n) (p := p)
  unfold skp
  omega
theorem skp_end (h : skp tx n p < n) : isBl (tx (skp tx n p)) = false := run_end h
theorem skp_skp (h : p ≤ n) : skp tx n (skp tx n p) = skp tx n p := by
  have l := skp_le (tx := tx) h
  have : run tx isBl n (skp tx n p) = 0 := run_is l.2 (fun k hk => absurd hk (Nat.not_lt_zero k)) (fun h9 => skp_end h9)
  show skp tx n p + run tx isBl n (skp tx n p) = _
  rw [this, Nat.add_zero]
theorem skp_step (h : p < n) (hb : isBl (tx p) = true) : skp tx n (p + 1) = skp tx n p := by
  have l := skp_le (tx := tx) (n := n) (p := p + 1) (by omega)
  have : run tx isBl n p = 1 + run tx isBl n (p + 1) := by
    refine run_is (by unfold skp at l; omega) (fun k hk => ?_) (fun h9 => ?_)
    · cases k with
      | zero => exact hb
      | succ k =>
        have := run_in (tx := tx) (q := isBl) (n := n) (p := p + 1) (k := k) (by omega)
        rw [show p + (k + 1) = p + 1 + k by omega]; exact this
    · have := run_end (tx := tx) (q := isBl) (n := n) (p := p + 1) (by omega)
      rw [show p + (1 + run tx isBl n (p + 1)) = p + 1 + run tx isBl n (p + 1) by omega]; exact this
  unfold skp
  omega
theorem skp_stop (h : n ≤ p ∨ isBl (tx p) = false) (hp : p ≤ n) : skp tx n p = p := by
  have : run tx isBl n p = 0 := run_is hp (fun k hk => absurd hk (Nat.not_lt_zero k)) (fun h9 => by
    rcases h with h | h
    · omega
    · exact h)
  unfold skp
  omega
def wle (tx : Nat → Nat) (n s : Nat) : Nat := run tx isLt n s
def dle (tx : Nat → Nat) (n s : Nat) : Nat := run tx isDg n s
/-- what stands at s -/
def tok (tx : Nat → Nat) (n s : Nat) : Nat := if n ≤ s then 5 else if isLt (tx s) then 1 else if isDg (tx s) then (if dle tx n s ≤ 5 then 2 else 0) else if tx s = 59 then 3 else if tx s = 58 then 4 else 0
def nxt (tx : Nat → Nat) (n s : Nat) : Nat := if n ≤ s then s else if isLt (tx s) then s + wle tx n s else if isDg (tx s) then s + dle tx n s else s + 1
def adv (tx : Nat → Nat) (n s : Nat) : Nat := skp tx n (nxt tx n s)
theorem tok5 {s : Nat} : tok tx n s = 5 ↔ n ≤ s := by
  unfold tok
  by_cases c : n ≤ s
  · rw [if_pos c]; exact ⟨fun _ => c, fun _ => rfl⟩
  · rw [if_neg c]
    refine ⟨fun h => ?_, fun h => absurd h c⟩
    (repeat' split at h) <;> omega
theorem tok_lt6 {s : Nat} : tok tx n s < 6 := by unfold tok; (repeat' split) <;> omega
theorem tok_in {s : Nat} (h : tok tx n s ≠ 5) : s < n := by
  have := mt tok5.mpr h
  omega
theorem run_pos {s : Nat} (h : s < n) (hq : q (tx s) = true) : 1 ≤ run tx q n s := by
  rcases Nat.eq_zero_or_pos (run tx q n s) with c | c
  · have := run_end (tx := tx) (q := q) (n := n) (p := s) (by omega)
    rw [c, Nat.add_zero, hq] at this; cases this
  · exact c
theorem nxt_gt {s : Nat} (h : s < n) : s < nxt tx n s ∧ nxt tx n s ≤ n := by
  have l1 := run_le (tx := tx) (q := isLt) (n := n) (p := s)
  have l2 := run_le (tx := tx) (q := isDg) (n := n) (p := s)
  unfold nxt wle dle
  rw [if_neg (by omega)]
  by_cases c : isLt (tx s) = true
  · rw [if_pos c]
    have := run_pos h c
    omega
  · rw [if_neg c]
    by_cases c2 : isDg (tx s) = true
    · rw [if_pos c2]
      have := run_pos h c2
      omega
    · rw [if_neg c2]; omega
theorem nxt_le {s : Nat} (h : s ≤ n) : s ≤ nxt tx n s ∧ nxt tx n s ≤ n := by
  by_cases c : s < n
  · have := nxt_gt (tx := tx) c; omega
  · unfold nxt
    rw [if_pos (by omega)]; omega
theorem adv_gt {s : Nat} (h : s < n) : s < adv tx n s ∧ adv tx n s ≤ n ∧ skp tx n (adv tx n s) = adv tx n s := by
  have l := nxt_gt (tx := tx) h
  have l2 := skp_le (tx := tx) (n := n) (p := nxt tx n s) l.2
  exact ⟨by unfold adv; omega, l2.2, skp_skp l.2⟩
/-- the number that the first k signs say -/
def val (tx : Nat → Nat) (s : Nat) : Nat → Nat
  | 0 => 0
  | k + 1 => val tx s k * 10 + (tx (s + k) - 48)
def num (tx : Nat → Nat) (n s : Nat) : Nat := val tx s (dle tx n s)
theorem val_lt {s : Nat} : ∀ {k}, (∀ j, j < k → isDg (tx (s + j)) = true) → val tx s k < 10 ^ k
  | 0, _ => by show (0 : Nat) < 1; omega
  | k + 1, h => by
    have h1 := val_lt (s := s) (k := k) (fun j hj => h j (by omega))
    have h2 := of_decide_eq_true (h k (by omega))
    rw [val, Nat.pow_succ]
    omega
theorem tok1 {s : Nat} : tok tx n s = 1 ↔ s < n ∧ isLt (tx s) = true := by
  unfold tok
  by_cases c : n ≤ s
  · rw [if_pos c]; exact ⟨fun h => by omega, fun h => by omega⟩
  · rw [if_neg c]
    by_cases c1 : isLt (tx s) = true
    · rw [if_pos c1]; exact ⟨fun _ => ⟨by omega, c1⟩, fun _ => rfl⟩
    · rw [if_neg c1]
      refine ⟨fun h => ?_, fun h => absurd h.2 c1⟩
      (repeat' split at h) <;> omega
theorem lt_dg {c : Nat} (h : isDg c = true) : isLt c = false := by
  have := of_decide_eq_true h
  exact decide_eq_false (by omega)
theorem tok2 {s : Nat} : tok tx n s = 2 ↔ s < n ∧ isDg (tx s) = true ∧ dle tx n s ≤ 5 := by
  unfold tok
  by_cases c : n ≤ s
  · rw [if_pos c]; exact ⟨fun h => by omega, fun h => by omega⟩
  · rw [if_neg c]
    by_cases c1 : isLt (tx s) = true
    · rw [if_pos c1]
      refine ⟨fun h => by omega, fun h => ?_⟩
      rw [lt_dg h.2.1] at c1; cases c1
    · rw [if_neg c1]
      by_cases c2 : isDg (tx s) = true
      · rw [if_pos c2]
        by_cases c3 : dle tx n s ≤ 5
        · rw [if_pos c3]; exact ⟨fun _ => ⟨by omega, c2, c3⟩, fun _ => rfl⟩
        · rw [if_neg c3]; exact ⟨fun h => by omega, fun h => absurd h.2.2 c3⟩
      · rw [if_neg c2]
        refine ⟨fun h => ?_, fun h => absurd h.2.1 c2⟩
        (repeat' split at h) <;> omega
theorem tokS {s c t : Nat} (h : (c = 59 ∧ t = 3) ∨ (c = 58 ∧ t = 4)) : tok tx n s = t ↔ s < n ∧ tx s = c := by
  unfold tok
  by_cases c0 : n ≤ s
  · rw [if_pos c0]; exact ⟨fun h => by omega, fun h => by omega⟩
  · rw [if_neg c0]
    by_cases c1 : isLt (tx s) = true
    · rw [if_pos c1]
      have := of_decide_eq_true c1
      exact ⟨fun h => by omega, fun h => by omega⟩
    · rw [if_neg c1]
      by_cases c2 : isDg (tx s) = true
      · rw [if_pos c2]
        have := of_decide_eq_true c2
        exact ⟨fun h => by split at h <;> omega, fun h => by omega⟩
      · rw [if_neg c2]
        by_cases c3 : tx s = 59
        · rw [if_pos c3]; exact ⟨fun h => by omega, fun h => by omega⟩
        · rw [if_neg c3]
          by_cases c4 : tx s = 58
          · rw [if_pos c4]; exact ⟨fun h => by omega, fun h => by omega⟩
          · rw [if_neg c4]; exact ⟨fun h => by omega, fun h => by omega⟩
theorem nxt1 {s : Nat} (h : tok tx n s = 1) : nxt tx n s = s + wle tx n s := by
  obtain ⟨h1, h2⟩ := tok1.mp h
  unfold nxt
  rw [if_neg (by omega), if_pos h2]
theorem nxt2 {s : Nat} (h : tok tx n s = 2) : nxt tx n s = s + dle tx n s := by
  obtain ⟨h1, h2, h3⟩ := tok2.mp h
  unfold nxt
  rw [if_neg (by omega), if_neg (by rw [lt_dg h2]; decide), if_pos h2]
theorem nxtS {s c t : Nat} (h : (c = 59 ∧ t = 3) ∨ (c = 58 ∧ t = 4)) (ht : tok tx n s = t) : nxt tx n s = s + 1 := by
  obtain ⟨h1, h2⟩ := (tokS h).mp ht
  unfold nxt
  rw [if_neg (by omega), if_neg (fun q => by have := of_decide_eq_true q; omega), if_neg (fun q => by have := of_decide_eq_true q; omega)]
theorem num_lt {s : Nat} (h : dle tx n s ≤ 5) : num tx n s < 100000 := by
  have h1 := val_lt (tx := tx) (s := s) (k := dle tx n s) (fun j hj => run_in hj)
  have h2 : 10 ^ dle tx n s ≤ 10 ^ 5 := Nat.pow_le_pow_right (by decide) h
  have h3 : (10 : Nat) ^ 5 = 100000 := by decide
  unfold num
  omega
/-- the letters of the word at s -/
def wd (tx : Nat → Nat) (s k : Nat) : Nat := tx (s + k) - 96
theorem wd_in {s k : Nat} (h : k < wle tx n s) : 1 ≤ wd tx s k ∧ wd tx s k ≤ 26 := by
  have := of_decide_eq_true (run_in h)
  unfold wd
  omega
theorem enc_inj {b : Nat} (hb : 27 ≤ b) : ∀ {n m : Nat} {f g : Nat → Nat}, (∀ k, k < n → 1 ≤ f k ∧ f k ≤ 26) → (∀ k, k < m → 1 ≤ g k ∧ g k ≤ 26) → enc b f n = enc b g m → n = m ∧ ∀ k, k < n → f k = g k
  | 0, 0, _, _, _, _, _ => ⟨rfl, fun k hk => absurd hk (Nat.not_lt_zero k)⟩
  | 0, m + 1, f, g, _, h2, h => by
    have := h2 m (by omega)
    rw [enc, enc] at h
    omega
  | n + 1, 0, f, g, h1, _, h => by
    have := h1 n (by omega)
    rw [enc, enc] at h
    omega
  | n + 1, m + 1, f, g, h1, h2, h => by
    have a1 := h1 n (by omega)
    have a2 := h2 m (by omega)
    rw [enc, enc] at h
    have e1 : f n = g m := by
      have q1 : (b * enc b f n + f n) % b = f n := by rw [Nat.mul_add_mod]; exact Nat.mod_eq_of_lt (by omega)
      have q2 : (b * enc b g m + g m) % b = g m := by rw [Nat.mul_add_mod]; exact Nat.mod_eq_of_lt (by omega)
      rw [← q1, ← q2, h]
    have e2 : enc b f n = enc b g m := Nat.eq_of_mul_eq_mul_left (show 0 < b by omega) (by omega)
    obtain ⟨e3, e4⟩ := enc_inj hb (fun k hk => h1 k (by omega)) (fun k hk => h2 k (by omega)) e2
    refine ⟨by omega, fun k hk => ?_⟩
    by_cases c : k = n
    · rw [c, e1, e3]
    · exact e4 k (by omega)
theorem enc_cong {b : Nat} {f g : Nat → Nat} : ∀ {n}, (∀ k, k < n → f k = g k) → enc b f n = enc b g n
  | 0, _ => rfl
  | n + 1, h => by rw [enc, enc, enc_cong (fun k hk => h k (by omega)), h n (by omega)]
theorem enc_lt {b : Nat} (hb : 27 ≤ b) {f : Nat → Nat} : ∀ {n}, (∀ k, k < n → f k ≤ 26) → enc b f n < b ^ n
  | 0, _ => by show (0 : Nat) < 1; omega
  | n + 1, h => by
    have h1 := enc_lt hb (n := n) (fun k hk => h k (by omega))
    have h2 := h n (by omega)
    have h3 : b * enc b f n + b ≤ b * b ^ n := by
      rw [← Nat.mul_succ]
      exact Nat.mul_le_mul_left b h1
    rw [enc, Nat.pow_succ, Nat.mul_comm (b ^ n)]
    omega
/-- the word at s, in one number -/
def cd (tx : Nat → Nat) (n s : Nat) : Nat := enc 27 (wd tx s) (wle tx n s)
/-- a word of letters stands at s, no longer than a name may be -/
def nmd (tx : Nat → Nat) (n s : Nat) : Bool := decide (tok tx n s = 1 ∧ wle tx n s ≤ 8)
def isWd (tx : Nat → Nat) (n s c : Nat) : Bool := nmd tx n s && decide (cd tx n s = c)
/-- the number of a sort's thing of that name, or how many there are -/
def fnd (tx : Nat → Nat) (n : Nat) (M : Nat → Nat → Nat) (so cnt s : Nat) : Nat := fa_first (fun i => decide (cd tx n (M 419 (nmB so + i)) = cd tx n s)) cnt
end
/-! what a text says: a fault (its code, its place), or what was read -/
abbrev ER := Nat × Nat
def sb {α β : Type} (x : ER ⊕ α) (f : α → ER ⊕ β) : ER ⊕ β := match x with
  | .inl e => .inl e
  | .inr a => f a
section
variable (tx : Nat → Nat) (n : Nat)
def sNum (s lo hi : Nat) : ER ⊕ (Nat × Nat) := if tok tx n s ≠ 2 then .inl (1, s) else if lo ≤ num tx n s ∧ num tx n s ≤ hi then .inr (num tx n s, adv tx n s) else .inl (2, s)
def sSym (s t : Nat) : ER ⊕ Nat := if tok tx n s = t then .inr (adv tx n s) else .inl (1, s)
def sNew (M : Nat → Nat → Nat) (so cnt s : Nat) : ER ⊕ Nat := if nmd tx n s = false then .inl (1, s) else if fnd tx n M so cnt s < cnt then .inl (3, s) else .inr (adv tx n s)
def sOf (M : Nat → Nat → Nat) (so cnt s : Nat) : ER ⊕ (Nat × Nat) := if nmd tx n s = false then .inl (1, s) else if fnd tx n M so cnt s < cnt then .inr (fnd tx n M so cnt s, adv tx n s) else .inl (4, s)
/-- 0: no skill -/
def sSkill (s : Nat) : Nat := if isWd tx n s 1758489 then 1 else if isWd tx n s 67154904 then 2 else if isWd tx n s 7010310 then 4 else if isWd tx n s 10364495 then 8 else 0
def sSkills : Nat → Nat → Nat → ER ⊕ (Nat × Nat)
  | 0, acc, s => .inr (acc, s)
  | f + 1, acc, s => if tok tx n s ≠ 1 then .inr (acc, s) else if sSkill tx n s = 0 then .inl (1, s) else if acc &&& sSkill tx n s ≠ 0 then .inl (3, s) else sSkills f (acc ||| sSkill tx n s) (adv tx n s)
/-- some cells are set -/
def put (M : Nat → Nat → Nat) (o k v : Nat) : Nat → Nat → Nat := fun a b => if a = o ∧ b = k then v else M a b
def sPerson (M : Nat → Nat → Nat) (s : Nat) : ER ⊕ ((Nat → Nat → Nat) × Nat) := if 12 ≤ M 412 8 then .inl (5, s) else
  sb (sNew tx n M 0 (M 412 8) (adv tx n s)) fun s2 => sb (sNum tx n s2 0 120) fun v => sb (sSkills tx n (n + 1) 0 v.2) fun a =>
  .inr (put (put (put (put M 419 (M 412 8) (adv tx n s)) 420 (M 412 8) v.1) 421 (M 412 8) a.1) 412 8 (M 412 8 + 1), a.2)
def sTrust (M : Nat → Nat → Nat) (s : Nat) : ER ⊕ ((Nat → Nat → Nat) × Nat) := if 24 ≤ M 412 40 then .inl (5, s) else
  sb (sOf tx n M 0 (M 412 8) (adv tx n s)) fun a => sb (sOf tx n M 0 (M 412 8) a.2) fun b =>
  if a.1 = b.1 then .inl (6, a.2) else if M 441 (12 * a.1 + b.1) ≠ 0 then .inl (3, a.2) else
  sb (sNum tx n b.2 0 9) fun v => .inr (put (put (put M 441 (12 * a.1 + b.1) 1) 440 (12 * a.1 + b.1) v.1) 412 40 (M 412 40 + 1), v.2)
/-- the names of a rotation -/
def sRot (M0 : Nat → Nat → Nat) (g : Nat) : Nat → (Nat → Nat → Nat) → Nat → Nat → ER ⊕ ((Nat → Nat → Nat) × Nat × Nat)
  | 0, M, c, s => .inr (M, c, s)
  | f + 1, M, c, s => if c ≠ 0 ∧ tok tx n s ≠ 1 then .inr (M, c, s) else sb (sOf tx n M0 0 (M0 412 8) s) fun a => if c = 8 then .inl (5, s) else sRot M0 g f (put M 445 (8 * g + c) a.1) (c + 1) a.2
def sPager (M : Nat → Nat → Nat) (s : Nat) : ER ⊕ ((Nat → Nat → Nat) × Nat) := if 6 ≤ M 412 9 then .inl (5, s) else
  sb (sNew tx n M 1 (M 412 9) (adv tx n s)) fun s2 => sb (sNum tx n s2 0 9) fun v => sb (sNum tx n v.2 1 168) fun w =>
  sb (sRot tx n M (M 412 9) (n + 2) (put (put (put M 419 (12 + M 412 9) (adv tx n s)) 422 (M 412 9) v.1) 423 (M 412 9) (60 * w.1)) 0 w.2) fun r =>
  .inr (put (put r.1 424 (M 412 9) r.2.1) 412 9 (M 412 9 + 1), r.2.2)
/-- the posts of an engine -/
def sPosts (e : Nat) : Nat → (Nat → Nat → Nat) → Nat → Nat → ER ⊕ ((Nat → Nat → Nat) × Nat × Nat)
  | 0, M, c, s => .inr (M, c, s)
  | f + 1, M, c, s => if c ≠ 0 ∧ tok tx n s ≠ 1 then .inr (M, c, s) else if isWd tx n s 1132 = false ∧ sSkill tx n s = 0 then .inl (1, s) else if c = 6 then .inl (5, s) else sPosts e f (put M 427 (6 * e + c) (sSkill tx n s)) (c + 1) (adv tx n s)
def sEngine (M : Nat → Nat → Nat) (s : Nat) : ER ⊕ ((Nat → Nat → Nat) × Nat) := if 5 ≤ M 412 10 then .inl (5, s) else
  sb (sNew tx n M 2 (M 412 10) (adv tx n s)) fun s2 => sb (sNum tx n s2 0 120) fun v =>
  sb (sPosts tx n (M 412 10) (n + 2) (put (put M 419 (18 + M 412 10) (adv tx n s)) 425 (M 412 10) v.1) 0 v.2) fun r =>
  .inr (put (put r.1 426 (M 412 10) r.2.1) 412 10 (M 412 10 + 1), r.2.2)
/-- names of different things, into the cells (o, b ..) -/
def sDiff (M0 : Nat → Nat → Nat) (so cnt o b : Nat) : Nat → (Nat → Nat → Nat) → Nat → Nat → ER ⊕ ((Nat → Nat → Nat) × Nat × Nat)
  | 0, M, c, s => .inr (M, c, s)
  | f + 1, M, c, s => if c ≠ 0 ∧ tok tx n s ≠ 1 then .inr (M, c, s) else sb (sOf tx n M0 so cnt s) fun a => if fa_first (fun j => decide (M o (b + j) = a.1)) c < c then .inl (3, s) else sDiff M0 so cnt o b f (put M o (b + c) a.1) (c + 1) a.2
def sKind (M : Nat → Nat → Nat) (s : Nat) : ER ⊕ ((Nat → Nat → Nat) × Nat) := if 6 ≤ M 412 11 then .inl (5, s) else
  sb (sNew tx n M 3 (M 412 11) (adv tx n s)) fun s2 => sb (sNum tx n s2 1 999) fun u => sb (sNum tx n u.2 0 240) fun v => sb (sNum tx n v.2 1 5) fun w => sb (sSym tx n w.2 4) fun s3 =>
  sb (sDiff tx n M 1 (M 412 9) 432 (6 * M 412 11) (n + 2) (put (put (put (put M 419 (23 + M 412 11) (adv tx n s)) 428 (M 412 11) u.1) 429 (M 412 11) v.1) 430 (M 412 11) w.1) 0 s3) fun r =>
  sb (sSym tx n r.2.2 4) fun s4 =>
  sb (sDiff tx n M 2 (M 412 10) 434 (5 * M 412 11) (n + 2) (put r.1 431 (M 412 11) r.2.1) 0 s4) fun z =>
  .inr (put (put z.1 433 (M 412 11) z.2.1) 412 11 (M 412 11 + 1), z.2.2)
/-- which section a word begins; 5: none -/
def sSec (s : Nat) : Nat := if isWd tx n s 232608281 then 0 else if isWd tx n s 10998956 then 1 else if isWd tx n s 8527995 then 2 else if isWd tx n s 79329434 then 3 else if isWd tx n s 223456 then 4 else 5
def sItem (c : Nat) (M : Nat → Nat → Nat) (s : Nat) : ER ⊕ ((Nat → Nat → Nat) × Nat) := if c = 0 then sPerson tx n M s else if c = 1 then sTrust tx n M s else if c = 2 then sPager tx n M s else if c = 3 then sEngine tx n M s else sKind tx n M s
def sMain : Nat → Nat → (Nat → Nat → Nat) → Nat → ER ⊕ (Nat → Nat → Nat)
  | 0, _, M, _ => .inr M
  | f + 1, sec, M, s => if tok tx n s = 5 then .inr M else if sSec tx n s < sec ∨ sSec tx n s = 5 then .inl (1, s) else sb (sItem tx n (sSec tx n s) M s) fun r => sb (sSym tx n r.2 3) fun s2 => sMain f (sSec tx n s) r.1 s2
def sNight (s : Nat) : ER ⊕ ((Nat → Nat → Nat) × Nat) := if isWd tx n s 7622660 = false then .inl (1, s) else
  sb (sNum tx n (adv tx n s) 0 23) fun b => sb (sNum tx n b.2 0 23) fun e => if b.1 = e.1 then .inl (2, b.2) else
  sb (sNum tx n e.2 0 30) fun k => sb (sNum tx n k.2 1 999) fun l => sb (sSym tx n l.2 3) fun s2 =>
  .inr (put (put (put (put (fun _ _ => 0) 418 0 b.1) 418 1 e.1) 418 2 k.1) 418 3 l.1, s2)
def sText : ER ⊕ (Nat → Nat → Nat) := sb (sNight tx n (skp tx n 0)) fun r => sMain tx n (n + 1) 0 r.1 r.2
end
