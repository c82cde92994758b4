/-! running the functions: a run that comes to its end with P; loops by a measure -/
def OK {α : Type} (x : Option (α × aH)) (P : α → aH → Prop) : Prop := ∃ r h', x = some (r, h') ∧ P r h'
theorem ok_ret {α : Type} {P : α → aH → Prop} {r : α} {h : aH} (k : P r h) : OK (some (r, h)) P := ⟨r, h, rfl, k⟩
theorem ok_mono {α : Type} {P Q : α → aH → Prop} {x : Option (α × aH)} (hx : OK x Q) (k : ∀ r h, Q r h → P r h) : OK x P := by
  obtain ⟨r, h, e, q⟩ := hx
  exact ⟨r, h, e, k r h q⟩
theorem ok_bR {α β : Type} {P : α → aH → Prop} {Q : β → aH → Prop} {x : Option (β × aH)} {f : β → aH → Option (α × aH)} (hx : OK x Q) (k : ∀ v h, Q v h → OK (f v h) P) : OK (bR x f) P := by
  obtain ⟨v, h, e, q⟩ := hx
  rw [e]
  exact k v h q
theorem ok_bX {α β : Type} {P : (α ⊕ String) → aH → Prop} {Q : (β ⊕ String) → aH → Prop} {x : Option ((β ⊕ String) × aH)} {f : β → aH → Option ((α ⊕ String) × aH)} (hx : OK x Q) (k : ∀ v h, Q (.inl v) h → OK (f v h) P) (kx : ∀ X h, Q (.inr X) h → P (.inr X) h) : OK (bX x f) P := by
  obtain ⟨v, h, e, q⟩ := hx
  rw [e]
  cases v with
  | inl v => exact k v h q
  | inr X => exact ok_ret (kx X h q)
theorem ok_bC {α β : Type} {P : α → aH → Prop} {Q : (β ⊕ String) → aH → Prop} {x : Option ((β ⊕ String) × aH)} {f : β → aH → Option (α × aH)} {g : String → aH → Option (α × aH)} (hx : OK x Q) (k : ∀ v h, Q (.inl v) h → OK (f v h) P) (kx : ∀ X h, Q (.inr X) h → OK (g X h) P) : OK (bC x f g) P := by
  obtain ⟨v, h, e, q⟩ := hx
  rw [e]
  cases v with
  | inl v => exact k v h q
  | inr X => exact kx X h q
theorem aJ_gen {κ γ : Type} {R : γ → Prop} {K : κ} {f : κ → γ} (h : ∀ k, k = K → R (f k)) : R (aJ K f) := h K rfl
theorem ok_bO {α β : Type} {P : α → aH → Prop} {x : Option β} {v : β} {f : β → Option (α × aH)} (hx : x = some v) (k : OK (f v) P) : OK (bO x f) P := by
  rw [hx]
  exact k
theorem FU_lt {n : Nat} (h : n < 1000000) : n < FU := h
theorem aL0_ind {γ : Type} {F : (aH → Option γ) → aH → Option γ} {R : Option γ → Prop} (I : Nat → aH → Prop) (step : ∀ rec m  h, I m  h → (∀ m2  h2, m2 < m → I m2  h2 → R (rec  h2)) → R (F rec  h)) : ∀ fuel m  h, I m  h → m < fuel → R (aL0 F fuel  h) := by
  intro fuel
  induction fuel with
  | zero => intro m  h _ hm; exact absurd hm (Nat.not_lt_zero m)
  | succ fuel ih => intro m  h hI hm; exact step _ m  h hI (fun m2  h2 h3 h4 => ih m2  h2 h4 (by omega))
theorem aL0_run {γ : Type} {F : (aH → Option γ) → aH → Option γ} {R : Option γ → Prop} (I : Nat → aH → Prop) {m : Nat} {h : aH} (h0 : I m  h) (hm : m < 1000000) (step : ∀ rec m  h, I m  h → (∀ m2  h2, m2 < m → I m2  h2 → R (rec  h2)) → R (F rec  h)) : R (aL0 F FU  h) := aL0_ind I step FU m  h h0 hm
theorem aL1_ind {σ1 γ : Type} {F : (σ1 → aH → Option γ) → σ1 → aH → Option γ} {R : Option γ → Prop} (I : Nat → σ1 → aH → Prop) (step : ∀ rec m s1 h, I m s1 h → (∀ m2 t1 h2, m2 < m → I m2 t1 h2 → R (rec t1 h2)) → R (F rec s1 h)) : ∀ fuel m s1 h, I m s1 h → m < fuel → R (aL1 F fuel s1 h) := by
  intro fuel
  induction fuel with
  | zero => intro m s1 h _ hm; exact absurd hm (Nat.not_lt_zero m)
  | succ fuel ih => intro m s1 h hI hm; exact step _ m s1 h hI (fun m2 t1 h2 h3 h4 => ih m2 t1 h2 h4 (by omega))
theorem aL1_run {σ1 γ : Type} {F : (σ1 → aH → Option γ) → σ1 → aH → Option γ} {R : Option γ → Prop} (I : Nat → σ1 → aH → Prop) {m : Nat} {s1 : σ1} {h : aH} (h0 : I m s1 h) (hm : m < 1000000) (step : ∀ rec m s1 h, I m s1 h → (∀ m2 t1 h2, m2 < m → I m2 t1 h2 → R (rec t1 h2)) → R (F rec s1 h)) : R (aL1 F FU s1 h) := aL1_ind I step FU m s1 h h0 hm
theorem aL2_ind {σ1 σ2 γ : Type} {F : (σ1 → σ2 → aH → Option γ) → σ1 → σ2 → aH → Option γ} {R : Option γ → Prop} (I : Nat → σ1 → σ2 → aH → Prop) (step : ∀ rec m s1 s2 h, I m s1 s2 h → (∀ m2 t1 t2 h2, m2 < m → I m2 t1 t2 h2 → R (rec t1 t2 h2)) → R (F rec s1 s2 h)) : ∀ fuel m s1 s2 h, I m s1 s2 h → m < fuel → R (aL2 F fuel s1 s2 h) := by
  intro fuel
  induction fuel with
  | zero => intro m s1 s2 h _ hm; exact absurd hm (Nat.not_lt_zero m)
  | succ fuel ih => intro m s1 s2 h hI hm; exact step _ m s1 s2 h hI (fun m2 t1 t2 h2 h3 h4 => ih m2 t1 t2 h2 h4 (by omega))
theorem aL2_run {σ1 σ2 γ : Type} {F : (σ1 → σ2 → aH → Option γ) → σ1 → σ2 → aH → Option γ} {R : Option γ → Prop} (I : Nat → σ1 → σ2 → aH → Prop) {m : Nat} {s1 : σ1} {s2 : σ2} {h : aH} (h0 : I m s1 s2 h) (hm : m < 1000000) (step : ∀ rec m s1 s2 h, I m s1 s2 h → (∀ m2 t1 t2 h2, m2 < m → I m2 t1 t2 h2 → R (rec t1 t2 h2)) → R (F rec s1 s2 h)) : R (aL2 F FU s1 s2 h) := aL2_ind I step FU m s1 s2 h h0 hm
theorem aL3_ind {σ1 σ2 σ3 γ : Type} {F : (σ1 → σ2 → σ3 → aH → Option γ) → σ1 → σ2 → σ3 → aH → Option γ} {R : Option γ → Prop} (I : Nat → σ1 → σ2 → σ3 → aH → Prop) (step : ∀ rec m s1 s2 s3 h, I m s1 s2 s3 h → (∀ m2 t1 t2 t3 h2, m2 < m → I m2 t1 t2 t3 h2 → R (rec t1 t2 t3 h2)) → R (F rec s1 s2 s3 h)) : ∀ fuel m s1 s2 s3 h, I m s1 s2 s3 h → m < fuel → R (aL3 F fuel s1 s2 s3 h) := by
  intro fuel
  induction fuel with
  | zero => intro m s1 s2 s3 h _ hm; exact absurd hm (Nat.not_lt_zero m)
  | succ fuel ih => intro m s1 s2 s3 h hI hm; exact step _ m s1 s2 s3 h hI (fun m2 t1 t2 t3 h2 h3 h4 => ih m2 t1 t2 t3 h2 h4 (by omega))
theorem aL3_run {σ1 σ2 σ3 γ : Type} {F : (σ1 → σ2 → σ3 → aH → Option γ) → σ1 → σ2 → σ3 → aH → Option γ} {R : Option γ → Prop} (I : Nat → σ1 → σ2 → σ3 → aH → Prop) {m : Nat} {s1 : σ1} {s2 : σ2} {s3 : σ3} {h : aH} (h0 : I m s1 s2 s3 h) (hm : m < 1000000) (step : ∀ rec m s1 s2 s3 h, I m s1 s2 s3 h → (∀ m2 t1 t2 t3 h2, m2 < m → I m2 t1 t2 t3 h2 → R (rec t1 t2 t3 h2)) → R (F rec s1 s2 s3 h)) : R (aL3 F FU s1 s2 s3 h) := aL3_ind I step FU m s1 s2 s3 h h0 hm
theorem aL4_ind {σ1 σ2 σ3 σ4 γ : Type} {F : (σ1 → σ2 → σ3 → σ4 → aH → Option γ) → σ1 → σ2 → σ3 → σ4 → aH → Option γ} {R : Option γ → Prop} (I : Nat → σ1 → σ2 → σ3 → σ4 → aH → Prop) (step : ∀ rec m s1 s2 s3 s4 h, I m s1 s2 s3 s4 h → (∀ m2 t1 t2 t3 t4 h2, m2 < m → I m2 t1 t2 t3 t4 h2 → R (rec t1 t2 t3 t4 h2)) → R (F rec s1 s2 s3 s4 h)) : ∀ fuel m s1 s2 s3 s4 h, I m s1 s2 s3 s4 h → m < fuel → R (aL4 F fuel s1 s2 s3 s4 h) := by
  intro fuel
  induction fuel with
  | zero => intro m s1 s2 s3 s4 h _ hm; exact absurd hm (Nat.not_lt_zero m)
  | succ fuel ih => intro m s1 s2 s3 s4 h hI hm; exact step _ m s1 s2 s3 s4 h hI (fun m2 t1 t2 t3 t4 h2 h3 h4 => ih m2 t1 t2 t3 t4 h2 h4 (by omega))
theorem aL4_run {σ1 σ2 σ3 σ4 γ : Type} {F : (σ1 → σ2 → σ3 → σ4 → aH → Option γ) → σ1 → σ2 → σ3 → σ4 → aH → Option γ} {R : Option γ → Prop} (I : Nat → σ1 → σ2 → σ3 → σ4 → aH → Prop) {m : Nat} {s1 : σ1} {s2 : σ2} {s3 : σ3} {s4 : σ4} {h : aH} (h0 : I m s1 s2 s3 s4 h) (hm : m < 1000000) (step : ∀ rec m s1 s2 s3 s4 h, I m s1 s2 s3 s4 h → (∀ m2 t1 t2 t3 t4 h2, m2 < m → I m2 t1 t2 t3 t4 h2 → R (rec t1 t2 t3 t4 h2)) → R (F rec s1 s2 s3 s4 h)) : R (aL4 F FU s1 s2 s3 s4 h) := aL4_ind I step FU m s1 s2 s3 s4 h h0 hm
