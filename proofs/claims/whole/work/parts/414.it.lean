def itS (T : Nat → Nat → Nat) (S : Nat → Nat) : Nat → Nat → Nat
  | 0 => S
  | k + 1 => minS T (itS T S k)
/-- the engines that return behind t, up to s -/
def rcn (S : Nat → Nat) (B : Nat → Bool) (t s n : Nat) : Nat := fb_ct (fun e => decide (t < S (284 + 3 * e) ∧ S (284 + 3 * e) ≤ s) && B e) n
theorem rcn_step (S : Nat → Nat) (B : Nat → Bool) {t s : Nat} (h : t ≤ s) (n : Nat) : rcn S B t (s + 1) n = rcn S B t s n + fb_ct (fun e => decide (S (284 + 3 * e) = s + 1) && B e) n := by
  unfold rcn
  rw [← fb_ct_or (fun e _ q => by
    rw [Bool.and_eq_true, Bool.and_eq_true] at q
    have h1 := of_decide_eq_true q.1.1
    have h2 := of_decide_eq_true q.2.1
    omega)]
  exact fb_ct_cong (fun e _ => by
    rw [← Bool.and_or_distrib_right, ← Bool.decide_or]
    congr 1
    exact decide_eq_decide.mpr ⟨fun q => by omega, fun q => by omega⟩)
theorem rcn_0 (S : Nat → Nat) (B : Nat → Bool) (t n : Nat) : rcn S B t t n = 0 := fb_ct_zero.mpr (fun e _ => by rw [decide_eq_false (by omega)]; rfl)
section
variable {T : Nat → Nat → Nat} {S : Nat → Nat}
theorem lst_ge {g t i : Nat} (hR : RwD T S) (hg : g < T 412 9) (hk : lst S g t ≤ i) (hi : i < S (194 + 15 * g + 8)) : S (194 + 15 * g + 12 + i) ≤ t := by
  by_cases c : S (194 + 15 * g + 12 + i) ≤ t
  · exact c
  · exfalso
    have f1 := fb_ct_split (fun k => decide (t < S (194 + 15 * g + 12 + k))) (i + 1) (S (194 + 15 * g + 8) - (i + 1))
    rw [show i + 1 + (S (194 + 15 * g + 8) - (i + 1)) = S (194 + 15 * g + 8) by omega] at f1
    have f2 : fb_ct (fun k => decide (t < S (194 + 15 * g + 12 + k))) (i + 1) = i + 1 := fb_ct_all.mpr (fun j hj => decide_eq_true (by
      by_cases e : j = i
      · rw [e]; omega
      · have := hR.ed g hg j i (by omega) hi
        omega))
    unfold lst at hk
    omega
theorem it_tm : ∀ k, itS T S k 0 = S 0 + k
  | 0 => rfl
  | k + 1 => by rw [itS, minS_tm, it_tm k]; rfl
theorem it_R (hD : PlD T) (hR : RwD T S) : ∀ k, S 0 + k < 40000 → RwD T (itS T S k)
  | 0, _ => hR
  | k + 1, h => minS_R hD (it_R hD hR k (by omega)) (by rw [it_tm]; omega)
theorem it_st (hD : PlD T) {j : Nat} (h : j = 1 ∨ (14 ≤ j ∧ j < 50) ∨ (194 ≤ j ∧ j < 284 ∧ (j - 194) % 15 ≠ 8) ∨ (284 ≤ j ∧ j < 299 ∧ (j - 284) % 3 ≠ 2) ∨ 299 ≤ j) : ∀ k, itS T S k j = S j
  | 0 => rfl
  | k + 1 => by rw [itS, minS_st hD h, it_st hD h k]
theorem it_lost (hD : PlD T) {p : Nat} (hp : p < T 412 8) : ∀ k, itS T S k (2 + p) = lostK (T 418 0) (T 418 1) (S (14 + p)) (S (2 + p)) (S 0) k
  | 0 => rfl
  | k + 1 => by
    have d := hD.nP
    rw [itS, minS_lost hD hp, it_lost hD hp k, it_tm, it_st hD (by omega), lostK_add]
theorem it_hn (hD : PlD T) (hR : RwD T S) {g : Nat} (hg : g < T 412 9) : ∀ k, itS T S k (194 + 15 * g + 8) = lst S g (S 0 + k)
  | 0 => (lst_now hR hg).symm
  | k + 1 => by
    have d := hD.nG
    have r := hR.hn g hg
    have l1 := lst_le S g (S 0 + k)
    have e1 : lst (itS T S k) g (S 0 + k + 1) = fb_ct (fun i => decide (S 0 + k + 1 < S (194 + 15 * g + 12 + i))) (lst S g (S 0 + k)) := by
      unfold lst
      rw [it_hn hD hR hg k]
      exact fb_ct_cong (fun i hi => by
        have h3 : i < 3 := by unfold lst at l1 hi; omega
        rw [it_st hD (by omega)])
    have e2 := fb_ct_split (fun i => decide (S 0 + k + 1 < S (194 + 15 * g + 12 + i))) (lst S g (S 0 + k)) (S (194 + 15 * g + 8) - lst S g (S 0 + k))
    rw [show lst S g (S 0 + k) + (S (194 + 15 * g + 8) - lst S g (S 0 + k)) = S (194 + 15 * g + 8) by omega] at e2
    have e3 : fb_ct (fun j => decide (S 0 + k + 1 < S (194 + 15 * g + 12 + (lst S g (S 0 + k) + j)))) (S (194 + 15 * g + 8) - lst S g (S 0 + k)) = 0 := fb_ct_zero.mpr (fun j hj => decide_eq_false (fun q => by
      have := lst_ge hR hg (t := S 0 + k) (i := lst S g (S 0 + k) + j) (by omega) (by omega)
      omega))
    rw [itS, minS_hn hD hg, it_tm, e1]
    show _ = lst S g (S 0 + (k + 1))
    unfold lst at e2 e3 ⊢
    rw [show S 0 + (k + 1) = S 0 + k + 1 by omega, e2]
    omega
theorem it_crew (hD : PlD T) (hR : RwD T S) {e : Nat} (he : e < T 412 10) : ∀ k, itS T S k (284 + 3 * e + 2) = if S 0 + k < S (284 + 3 * e) then S (284 + 3 * e + 2) else 0
  | 0 => by
    have h := hR.crout e he
    show S (284 + 3 * e + 2) = _
    by_cases c : S 0 + 0 < S (284 + 3 * e)
    · rw [if_pos c]
    · rw [if_neg c]
      by_cases c2 : S (284 + 3 * e + 2) = 0
      · exact c2
      · exact absurd (h.mp c2) c
  | k + 1 => by
    have d := hD.nE
    have h := hR.crout e he
    rw [itS, minS_crew hD he, it_crew hD hR he k]
    unfold rtn
    rw [it_crew hD hR he k, it_st hD (by omega), it_tm]
    by_cases c : S 0 + k < S (284 + 3 * e)
    · rw [if_pos c]
      have c2 := h.mpr (by omega)
      by_cases c3 : S (284 + 3 * e) = S 0 + k + 1
      · rw [if_pos (decide_eq_true ⟨c2, c3⟩), if_neg (by omega)]
      · rw [if_neg (by simp [c3]), if_pos (by omega)]
    · rw [if_neg c, if_neg (by simp), if_neg (by omega)]
theorem it_rtn (hD : PlD T) (hR : RwD T S) {e : Nat} (he : e < T 412 10) (k : Nat) : rtn (itS T S k) e = decide (S (284 + 3 * e) = S 0 + k + 1) := by
  have d := hD.nE
  have h := hR.crout e he
  unfold rtn
  rw [it_crew hD hR he k, it_st hD (by omega), it_tm]
  apply decide_eq_decide.mpr
  constructor
  · exact fun q => q.2
  · intro q
    refine ⟨?_, q⟩
    rw [if_pos (by omega)]
    exact h.mpr (by omega)
def trB (S : Nat → Nat) (p q e : Nat) : Bool := decide (p ≠ q) && ((S (284 + 3 * e + 2)).testBit p && (S (284 + 3 * e + 2)).testBit q)
theorem it_tr (hD : PlD T) (hR : RwD T S) {p q : Nat} (hp : p < T 412 8) (hq : q < T 412 8) : ∀ k, S 0 + k < 40000 → itS T S k (50 + 12 * p + q) = min 9 (S (50 + 12 * p + q) + rcn S (trB S p q) (S 0) (S 0 + k) (T 412 10))
  | 0, _ => by
    have := hR.tr p hp q hq
    show S (50 + 12 * p + q) = _
    rw [Nat.add_zero, rcn_0]
    omega
  | k + 1, hk => by
    have d := hD.nP
    have d3 := hD.nE
    have h1 := (it_R hD hR k (by omega)).tr p hp q hq
    have h2 := it_tr hD hR hp hq k (by omega)
    have e1 : fb_ct (fun e => rtn (itS T S k) e && (decide (p ≠ q) && ((itS T S k (284 + 3 * e + 2)).testBit p && (itS T S k (284 + 3 * e + 2)).testBit q))) (T 412 10) = fb_ct (fun e => decide (S (284 + 3 * e) = S 0 + k + 1) && trB S p q e) (T 412 10) := fb_ct_cong (fun e he => by
      rw [it_rtn hD hR he k]
      by_cases c : S (284 + 3 * e) = S 0 + k + 1
      · rw [it_crew hD hR he k, if_pos (by omega)]
        rfl
      · rw [decide_eq_false c]; rfl)
    rw [itS, minS_tr hD (by omega) (by omega), grf_min h1, e1, h2, show S 0 + (k + 1) = S 0 + k + 1 by omega, rcn_step S _ (by omega)]
    omega
/-- how many engines return in the next k minutes -/
def rsum (T : Nat → Nat → Nat) (S : Nat → Nat) : Nat → Nat
  | 0 => 0
  | k + 1 => rsum T S k + fb_ct (rtn (itS T S k)) (T 412 10)
theorem rsum_is (hD : PlD T) (hR : RwD T S) : ∀ k, rsum T S k = rcn S (fun _ => true) (S 0) (S 0 + k) (T 412 10)
  | 0 => (rcn_0 _ _ _ _).symm
  | k + 1 => by
    have e1 : fb_ct (rtn (itS T S k)) (T 412 10) = fb_ct (fun e => decide (S (284 + 3 * e) = S 0 + k + 1) && true) (T 412 10) := fb_ct_cong (fun e he => by rw [it_rtn hD hR he k, Bool.and_true])
    rw [rsum, rsum_is hD hR k, e1, show S 0 + (k + 1) = S 0 + k + 1 by omega, rcn_step S _ (by omega)]
end
