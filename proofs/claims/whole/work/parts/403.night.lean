/-! nights and lost sleep, by numbers -/
def isN (b e t : Nat) : Bool := decide ((t / 60 % 24 + 24 - b) % 24 < (e + 24 - b) % 24)
/-- how many minutes before t are at night -/
def nm (b e : Nat) : Nat → Nat
  | 0 => 0
  | t + 1 => nm b e t + (if isN b e t then 1 else 0)
def mbf (b e t : Nat) : Nat := if b < e then t / 1440 * (60 * (e - b)) + min (t % 1440 - 60 * b) (60 * (e - b)) else t / 1440 * (60 * (24 - b + e)) + min (t % 1440) (60 * e) + (t % 1440 - 60 * b)
theorem mbf_step {b e : Nat} (hb : b < 24) (he : e < 24) (hn : b ≠ e) (t : Nat) : mbf b e (t + 1) = mbf b e t + (if isN b e t then 1 else 0) := by
  have hd : (t + 1) / 1440 = if t % 1440 = 1439 then t / 1440 + 1 else t / 1440 := by split <;> omega
  have hr : (t + 1) % 1440 = if t % 1440 = 1439 then 0 else t % 1440 + 1 := by split <;> omega
  have hh : t / 60 % 24 = t % 1440 / 60 := by omega
  have hlt : t % 1440 < 1440 := Nat.mod_lt _ (by decide)
  unfold mbf isN
  rw [hh, hd, hr]
  generalize t % 1440 = r at *
  generalize t / 1440 = d at *
  by_cases hbe : b < e
  · rw [if_pos hbe, if_pos hbe]
    by_cases h9 : r = 1439
    · rw [if_pos h9, if_pos h9, Nat.succ_mul]
      generalize d * (60 * (e - b)) = X
      by_cases hc : (r / 60 + 24 - b) % 24 < (e + 24 - b) % 24
      · rw [if_pos (decide_eq_true hc)]; omega
      · rw [if_neg (by simpa using hc)]; omega
    · rw [if_neg h9, if_neg h9]
      generalize d * (60 * (e - b)) = X
      by_cases hc : (r / 60 + 24 - b) % 24 < (e + 24 - b) % 24
      · rw [if_pos (decide_eq_true hc)]; omega
      · rw [if_neg (by simpa using hc)]; omega
  · rw [if_neg hbe, if_neg hbe]
    by_cases h9 : r = 1439
    · rw [if_pos h9, if_pos h9, Nat.succ_mul]
      generalize d * (60 * (24 - b + e)) = X
      by_cases hc : (r / 60 + 24 - b) % 24 < (e + 24 - b) % 24
      · rw [if_pos (decide_eq_true hc)]; omega
      · rw [if_neg (by simpa using hc)]; omega
    · rw [if_neg h9, if_neg h9]
      generalize d * (60 * (24 - b + e)) = X
      by_cases hc : (r / 60 + 24 - b) % 24 < (e + 24 - b) % 24
      · rw [if_pos (decide_eq_true hc)]; omega
      · rw [if_neg (by simpa using hc)]; omega
theorem mbf_nm {b e : Nat} (hb : b < 24) (he : e < 24) (hn : b ≠ e) : ∀ t, mbf b e t = nm b e t
  | 0 => by
    unfold mbf nm
    split <;> simp
  | t + 1 => by rw [mbf_step hb he hn, nm, mbf_nm hb he hn t]
theorem nm_le (b e : Nat) : ∀ t k, nm b e (t + k) ≤ nm b e t + k
  | t, 0 => Nat.le_refl _
  | t, k + 1 => by
    have := nm_le b e t k
    rw [← Nat.add_assoc, nm]
    split <;> omega
theorem nm_mono (b e : Nat) : ∀ t k, nm b e t ≤ nm b e (t + k)
  | t, 0 => Nat.le_refl _
  | t, k + 1 => by
    have := nm_mono b e t k
    rw [← Nat.add_assoc, nm]
    omega
theorem nm_mono' (b e : Nat) {s t : Nat} (h : s ≤ t) : nm b e s ≤ nm b e t := by
  have := nm_mono b e s (t - s)
  rwa [show s + (t - s) = t by omega] at this
theorem nm_le' (b e : Nat) {s t : Nat} (h : s ≤ t) : nm b e t ≤ nm b e s + (t - s) := by
  have := nm_le b e s (t - s)
  rwa [show s + (t - s) = t by omega] at this
theorem nm_le0 (b e t : Nat) : nm b e t ≤ t := by
  have := nm_le b e 0 t
  rw [Nat.zero_add, nm] at this
  omega
/-- lost sleep, minute by minute: l at t, who is out until u, k minutes later -/
def lostK (b e u l t : Nat) : Nat → Nat
  | 0 => l
  | k + 1 => if isN b e (t + k) then (if t + k < u then lostK b e u l t k + 1 else lostK b e u l t k - 1) else lostK b e u l t k
/-- .. at once -/
def lostF (b e u l t s : Nat) : Nat := l + (nm b e (min (max u t) s) - nm b e t) - (nm b e s - nm b e (min (max u t) s))
theorem lostK_F (b e u l t : Nat) : ∀ k, lostK b e u l t k = lostF b e u l t (t + k)
  | 0 => by
    unfold lostF
    rw [lostK, show min (max u t) (t + 0) = t by omega, Nat.add_zero]
    omega
  | k + 1 => by
    rw [lostK, lostK_F b e u l t k]
    unfold lostF
    by_cases hu : t + k < u
    · rw [show min (max u t) (t + k) = t + k by omega, show min (max u t) (t + (k + 1)) = t + k + 1 by omega, show t + (k + 1) = t + k + 1 by omega, nm]
      have := nm_mono b e t k
      by_cases hn : isN b e (t + k) = true
      · rw [if_pos hn, if_pos hu, if_pos hn]; omega
      · rw [if_neg hn, if_neg hn]; omega
    · rw [show min (max u t) (t + k) = max u t by omega, show min (max u t) (t + (k + 1)) = max u t by omega, show t + (k + 1) = t + k + 1 by omega, nm]
      have := nm_mono' b e (s := max u t) (t := t + k) (by omega)
      by_cases hn : isN b e (t + k) = true
      · rw [if_pos hn, if_neg hu, if_pos hn]; omega
      · rw [if_neg hn, if_neg hn]; omega
theorem lostK_le (b e u l t : Nat) : ∀ k, lostK b e u l t k ≤ l + k
  | 0 => Nat.le_refl _
  | k + 1 => by
    have := lostK_le b e u l t k
    rw [lostK]
    split
    · split <;> omega
    · omega
theorem lostK_add (b e u l t j : Nat) : ∀ k, lostK b e u l t (j + k) = lostK b e u (lostK b e u l t j) (t + j) k
  | 0 => rfl
  | k + 1 => by
    rw [← Nat.add_assoc, lostK, lostK, lostK_add b e u l t j k, show t + (j + k) = t + j + k by omega]
/-- who is tired (at least m) stays so until the return; from then on sleep only falls -/
theorem lostK_down (b e u l t : Nat) {j k : Nat} (hj : u ≤ t + j) (hjk : j ≤ k) : lostK b e u l t k ≤ lostK b e u l t j := by
  obtain ⟨d, rfl⟩ : ∃ d, k = j + d := ⟨k - j, by omega⟩
  induction d with
  | zero => exact Nat.le_refl _
  | succ d ih =>
    rw [← Nat.add_assoc, lostK, if_neg (show ¬ t + (j + d) < u by omega)]
    have := ih (by omega)
    split <;> omega
theorem lostK_up (b e u l t : Nat) : ∀ {k : Nat}, t + k ≤ u → l ≤ lostK b e u l t k
  | 0, _ => Nat.le_refl _
  | k + 1, h => by
    have := lostK_up b e u l t (k := k) (by omega)
    rw [lostK, if_pos (show t + k < u by omega)]
    split <;> omega
/-- the tired minutes stand in a row from the present on -/
theorem lostK_row (b e u l t m : Nat) (hl : m ≤ l) {j k : Nat} (hjk : j ≤ k) (hk : m ≤ lostK b e u l t k) : m ≤ lostK b e u l t j := by
  by_cases hu : t + j ≤ u
  · exact Nat.le_trans hl (lostK_up b e u l t hu)
  · exact Nat.le_trans hk (lostK_down b e u l t (by omega) hjk)
