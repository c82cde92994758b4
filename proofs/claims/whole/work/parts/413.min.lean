/-! a minute of the row, many minutes of the row -/
def grf (A : Nat → Bool) (c : Nat → Nat) (p q X : Nat) : Nat → Nat
  | 0 => X
  | e + 1 => if A e then gro (c e) p q (grf A c p q X e) else grf A c p q X e
theorem grf_min {A : Nat → Bool} {c : Nat → Nat} {p q X : Nat} (hX : X ≤ 9) : ∀ n, grf A c p q X n = min 9 (X + fb_ct (fun e => A e && (decide (p ≠ q) && ((c e).testBit p && (c e).testBit q))) n)
  | 0 => by show X = min 9 (X + 0); omega
  | n + 1 => by
    rw [grf, fb_ct_succ, grf_min hX n]
    generalize fb_ct (fun e => A e && (decide (p ≠ q) && ((c e).testBit p && (c e).testBit q))) n = C
    by_cases hA : A n = true
    · rw [if_pos hA, hA, Bool.true_and]
      unfold gro
      by_cases h1 : p ≠ q
      · rw [decide_eq_true h1, Bool.true_and]
        cases h2 : (c n).testBit p
        · rw [if_neg (by simp)]; simp
        · cases h3 : (c n).testBit q
          · rw [if_neg (by simp)]; simp
          · by_cases h4 : min 9 (X + C) < 9
            · rw [if_pos ⟨h1, rfl, rfl, h4⟩]; simp; omega
            · rw [if_neg (fun q => h4 q.2.2.2)]; simp; omega
      · rw [if_neg (fun q => h1 q.1), decide_eq_false h1]; simp
    · rw [if_neg hA, show A n = false by simpa using hA]; simp
/-- the engines that return at the next minute -/
def rtn (S : Nat → Nat) (e : Nat) : Bool := decide (S (284 + 3 * e + 2) ≠ 0 ∧ S (284 + 3 * e) = S 0 + 1)
def minS (T : Nat → Nat → Nat) (S : Nat → Nat) (j : Nat) : Nat :=
  if j = 0 then S 0 + 1
  else if 2 ≤ j ∧ j < 2 + T 412 8 then lostK (T 418 0) (T 418 1) (S (j + 12)) (S j) (S 0) 1
  else if 50 ≤ j ∧ j < 194 then grf (rtn S) (fun e => S (284 + 3 * e + 2)) ((j - 50) / 12) ((j - 50) % 12) (S j) (T 412 10)
  else if 194 ≤ j ∧ j < 284 ∧ (j - 194) % 15 = 8 ∧ (j - 194) / 15 < T 412 9 then lst S ((j - 194) / 15) (S 0 + 1)
  else if 284 ≤ j ∧ j < 299 ∧ (j - 284) % 3 = 2 ∧ (j - 284) / 3 < T 412 10 ∧ rtn S ((j - 284) / 3) = true then 0
  else S j
section
variable {T : Nat → Nat → Nat} {S : Nat → Nat}
theorem minS_tm : minS T S 0 = S 0 + 1 := if_pos rfl
theorem minS_lost (hD : PlD T) {p : Nat} (hp : p < T 412 8) : minS T S (2 + p) = lostK (T 418 0) (T 418 1) (S (14 + p)) (S (2 + p)) (S 0) 1 := by
  unfold minS
  rw [if_neg (by omega), if_pos (by omega), show 2 + p + 12 = 14 + p by omega]
theorem minS_tr {p q : Nat} (hD : PlD T) (hp : p < 12) (hq : q < 12) : minS T S (50 + 12 * p + q) = grf (rtn S) (fun e => S (284 + 3 * e + 2)) p q (S (50 + 12 * p + q)) (T 412 10) := by
  have d := hD.nP
  unfold minS
  rw [if_neg (by omega), if_neg (by omega), if_pos (by omega), show (50 + 12 * p + q - 50) / 12 = p by omega, show (50 + 12 * p + q - 50) % 12 = q by omega]
theorem minS_hn (hD : PlD T) {g : Nat} (hg : g < T 412 9) : minS T S (194 + 15 * g + 8) = lst S g (S 0 + 1) := by
  have d := hD.nP
  have d2 := hD.nG
  unfold minS
  rw [if_neg (by omega), if_neg (by omega), if_neg (by omega), if_pos (by omega), show (194 + 15 * g + 8 - 194) / 15 = g by omega]
theorem minS_crew (hD : PlD T) {e : Nat} (he : e < T 412 10) : minS T S (284 + 3 * e + 2) = if rtn S e = true then 0 else S (284 + 3 * e + 2) := by
  have d := hD.nP
  have d2 := hD.nE
  unfold minS
  rw [if_neg (by omega), if_neg (by omega), if_neg (by omega), if_neg (by omega), show (284 + 3 * e + 2 - 284) / 3 = e by omega]
  by_cases c : rtn S e = true
  · rw [if_pos c, if_pos ⟨by omega, by omega, by omega, he, c⟩]
  · rw [if_neg c, if_neg (fun q => c q.2.2.2.2)]
/-- what no minute changes -/
theorem minS_st {j : Nat} (hD : PlD T) (h : j = 1 ∨ (14 ≤ j ∧ j < 50) ∨ (194 ≤ j ∧ j < 284 ∧ (j - 194) % 15 ≠ 8) ∨ (284 ≤ j ∧ j < 299 ∧ (j - 284) % 3 ≠ 2) ∨ 299 ≤ j) : minS T S j = S j := by
  have d := hD.nP
  unfold minS
  rw [if_neg (by omega), if_neg (by omega), if_neg (by omega), if_neg (by omega), if_neg (by omega)]
theorem lst_lt {g t k : Nat} (hR : RwD T S) (hg : g < T 412 9) (hk : k < lst S g t) : t < S (194 + 15 * g + 12 + k) := by
  have h1 := lst_le S g t
  by_cases c : t < S (194 + 15 * g + 12 + k)
  · exact c
  · exfalso
    have e1 := fb_ct_split (fun k => decide (t < S (194 + 15 * g + 12 + k))) k (S (194 + 15 * g + 8) - k)
    rw [show k + (S (194 + 15 * g + 8) - k) = S (194 + 15 * g + 8) by omega] at e1
    have e2 := fb_ct_le (fun k => decide (t < S (194 + 15 * g + 12 + k))) k
    have e3 : fb_ct (fun j => decide (t < S (194 + 15 * g + 12 + (k + j)))) (S (194 + 15 * g + 8) - k) = 0 := fb_ct_zero.mpr (fun j hj => decide_eq_false (by
      by_cases e : j = 0
      · rw [e]; exact c
      · have := hR.ed g hg k (k + j) (by omega) (by omega)
        omega))
    unfold lst at hk
    omega
theorem tr_le (hR : RwD T S) {p q : Nat} (hp : p < T 412 8) (hq : q < T 412 8) : S (50 + 12 * p + q) ≤ 9 := hR.tr p hp q hq
theorem minS_R (hD : PlD T) (hR : RwD T S) (ht : S 0 + 1 < 40000) : RwD T (minS T S) := by
  have d1 := hD.nP
  have d2 := hD.nG
  have d3 := hD.nE
  have st : ∀ {j : Nat}, (j = 1 ∨ (14 ≤ j ∧ j < 50) ∨ (194 ≤ j ∧ j < 284 ∧ (j - 194) % 15 ≠ 8) ∨ (284 ≤ j ∧ j < 299 ∧ (j - 284) % 3 ≠ 2) ∨ 299 ≤ j) → minS T S j = S j := fun h => minS_st hD h
  have hnle : ∀ g, g < T 412 9 → minS T S (194 + 15 * g + 8) ≤ S (194 + 15 * g + 8) := fun g hg => by rw [minS_hn hD hg]; exact lst_le _ _ _
  have cr : ∀ e, e < T 412 10 → minS T S (284 + 3 * e + 2) = 0 ∨ minS T S (284 + 3 * e + 2) = S (284 + 3 * e + 2) := fun e he => by
    rw [minS_crew hD he]
    split
    · exact Or.inl rfl
    · exact Or.inr rfl
  refine ⟨?_, ?_, ?_, ?_, ?_, ?_, ?_, ?_, ?_, ?_, ?_, ?_, ?_, ?_, ?_, ?_, ?_, ?_, ?_⟩
  · rw [minS_tm]; exact ht
  · rw [st (by omega)]; exact hR.many
  · intro p hp
    rw [minS_lost hD hp, minS_tm]
    have := lostK_le (T 418 0) (T 418 1) (S (14 + p)) (S (2 + p)) (S 0) 1
    have := hR.lost p hp
    omega
  · intro p hp; rw [st (by omega)]; exact hR.out p hp
  · intro p hp; rw [st (by omega)]; exact hR.exc p hp
  · intro p hp q hq
    rw [minS_tr hD (by omega) (by omega), grf_min (hR.tr p hp q hq)]
    omega
  · intro g hg q hq
    have := hD.plc g hg
    rw [st (by omega)]; exact hR.rot g hg q hq
  · intro g hg; have := hnle g hg; have := hR.hn g hg; omega
  · intro g hg k hk
    have := hnle g hg
    have := hR.hn g hg
    rw [st (by omega)]
    exact hR.to g hg k (by omega)
  · intro g hg k hk
    have h1 := hnle g hg
    have h2 := hR.hn g hg
    rw [minS_hn hD hg] at hk
    have h3 := lst_le S g (S 0 + 1)
    rw [minS_tm, st (j := 194 + 15 * g + 12 + k) (by omega)]
    refine ⟨lst_lt hR hg hk, Nat.le_trans (hR.en g hg k (by omega)).2 ?_⟩
    exact Nat.mul_le_mul_right _ (Nat.succ_le_succ (Nat.div_le_div_right (by omega)))
  · intro g hg j k hj hk
    have h1 := hnle g hg
    have h2 := hR.hn g hg
    rw [st (by omega), st (by omega)]
    exact hR.ed g hg j k hj (by omega)
  · intro e he; rw [st (by omega)]; exact hR.ret e he
  · intro e he; rw [st (by omega)]; exact hR.rest e he
  · intro e he
    rcases cr e he with c | c
    · rw [c]; exact Nat.two_pow_pos _
    · rw [c]; exact hR.crew e he
  · intro e he
    have h1 := hR.crout e he
    rw [minS_crew hD he, minS_tm, st (j := 284 + 3 * e) (by omega)]
    by_cases c : rtn S e = true
    · have c2 := of_decide_eq_true c
      rw [if_pos c]
      exact ⟨fun q => absurd rfl q, fun q => by omega⟩
    · rw [if_neg c]
      have c2 : ¬ (S (284 + 3 * e + 2) ≠ 0 ∧ S (284 + 3 * e) = S 0 + 1) := fun q => c (decide_eq_true q)
      constructor
      · intro q
        have := h1.mp q
        by_cases e9 : S (284 + 3 * e) = S 0 + 1
        · exact absurd ⟨q, e9⟩ c2
        · omega
      · intro q
        exact h1.mpr (by omega)
  · intro c hc; rw [st (by omega)] at hc ⊢; exact hR.ans c hc
  · intro c hc; rw [st (by omega)] at hc ⊢; exact hR.left c hc
  · intro c hc i hi; rw [st (by omega)] at hc hi ⊢; exact hR.lcr c hc i hi
  · intro j
    by_cases c1 : j = 1 ∨ (14 ≤ j ∧ j < 50) ∨ (194 ≤ j ∧ j < 284 ∧ (j - 194) % 15 ≠ 8) ∨ (284 ≤ j ∧ j < 299 ∧ (j - 284) % 3 ≠ 2) ∨ 299 ≤ j
    · rw [st c1]; exact hR.big j
    · have b := hR.big j
      unfold minS
      split
      · omega
      · split
        · have := lostK_le (T 418 0) (T 418 1) (S (j + 12)) (S j) (S 0) 1
          have h9 := hR.lost (j - 2) (by omega)
          rw [show 2 + (j - 2) = j by omega] at h9
          omega
        · split
          · have gle : ∀ n, grf (rtn S) (fun e => S (284 + 3 * e + 2)) ((j - 50) / 12) ((j - 50) % 12) (S j) n ≤ max 9 (S j) := by
              intro n
              induction n with
              | zero => show S j ≤ _; omega
              | succ n ih =>
                rw [grf]
                split
                · unfold gro
                  split
                  · omega
                  · exact ih
                · exact ih
            have := gle (T 412 10)
            omega
          · split
            · have := lst_le S ((j - 194) / 15) (S 0 + 1)
              have := hR.big (194 + 15 * ((j - 194) / 15) + 8)
              omega
            · split <;> omega
end
