/-! the reference's reader: the new plan -/
/-- the cells that a plan has filled -/
def fil (M : Nat → Nat → Nat) (o k : Nat) : Prop := (o = 418 ∧ k < 4) ∨ ((o = 420 ∨ o = 421) ∧ k < M 412 8) ∨ ((o = 422 ∨ o = 423 ∨ o = 424) ∧ k < M 412 9) ∨ (o = 445 ∧ k / 8 < M 412 9 ∧ k % 8 < M 424 (k / 8)) ∨ ((o = 425 ∨ o = 426) ∧ k < M 412 10) ∨ (o = 427 ∧ k / 6 < M 412 10 ∧ k % 6 < M 426 (k / 6)) ∨ ((o = 428 ∨ o = 429 ∨ o = 430 ∨ o = 431 ∨ o = 433) ∧ k < M 412 11) ∨ (o = 432 ∧ k / 6 < M 412 11 ∧ k % 6 < M 431 (k / 6)) ∨ (o = 434 ∧ k / 5 < M 412 11 ∧ k % 5 < M 433 (k / 5))
/-- where the reference puts them -/
def nu (o : Nat) : Nat := if o = 418 then 436 else if o < 422 then o + 18 else if o < 425 then o + 20 else if o < 435 then o + 21 else o
def RM (tx : Nat → Nat) (n : Nat) (M : Nat → Nat → Nat) (h : aH) : Prop := (h_iv h 412 39 = nI (M 412 8) ∧ h_iv h 412 40 = nI (M 412 40) ∧ h_iv h 412 41 = nI (M 412 9) ∧ h_iv h 412 42 = nI (M 412 10) ∧ h_iv h 412 43 = nI (M 412 11)) ∧ (∀ o k, fil M o k → h_iv h (nu o) k = nI (M o k)) ∧ (∀ k, k < 144 → h_iv h 441 k = nI (M 441 k) ∧ h_iv h 440 k = nI (if M 441 k = 0 then 0 else M 440 k)) ∧ ∀ so, so < 4 → NY tx n M so (nmN M so) h
/-- cells of a new thing were written (A), its name (w), and scratch -/
def RV (A : Nat → Nat → Prop) (w : Nat) (h h1 : aH) : Prop := (∀ o k, ¬ RSx o k → ¬ A o k → h_iv h1 o k = h_iv h o k) ∧ ∀ k, k ≠ w → h_lv h1 437 k = h_lv h 437 k
theorem nu_v (o : Nat) : (o = 418 ∧ nu o = 436) ∨ (o ≠ 418 ∧ o < 422 ∧ nu o = o + 18) ∨ (422 ≤ o ∧ o < 425 ∧ nu o = o + 20) ∨ (425 ≤ o ∧ o < 435 ∧ nu o = o + 21) ∨ (435 ≤ o ∧ nu o = o) := by
  unfold nu
  (repeat' split) <;> omega
theorem nu_in {o : Nat} (h1 : 418 ≤ o) (h2 : o < 446) : 435 ≤ nu o ∧ nu o < 456 := by
  have := nu_v o
  omega
theorem fil_lt {M : Nat → Nat → Nat} {o k : Nat} (f : fil M o k) : ((o = 420 ∨ o = 421) → k < M 412 8) ∧ ((o = 422 ∨ o = 423 ∨ o = 424) → k < M 412 9) ∧ ((o = 445) → k / 8 < M 412 9) ∧ ((o = 425 ∨ o = 426) → k < M 412 10) ∧ ((o = 427) → k / 6 < M 412 10) ∧ ((o = 428 ∨ o = 429 ∨ o = 430 ∨ o = 431 ∨ o = 433) → k < M 412 11) ∧ ((o = 432) → k / 6 < M 412 11) ∧ ((o = 434) → k / 5 < M 412 11) := by
  unfold fil at f
  refine ⟨fun q => by omega, fun q => by omega, fun q => by omega, fun q => by omega, fun q => by omega, fun q => by omega, fun q => by omega, fun q => by omega⟩
theorem fil_addP {M M' : Nat → Nat → Nat} (q8 : M' 412 8 = M 412 8 + 1) (q9 : M' 412 9 = M 412 9) (q10 : M' 412 10 = M 412 10) (q11 : M' 412 11 = M 412 11) (e424 : ∀ g, M' 424 g = M 424 g) (e426 : ∀ g, M' 426 g = M 426 g) (e431 : ∀ g, M' 431 g = M 431 g) (e433 : ∀ g, M' 433 g = M 433 g) {o k : Nat} (f : fil M' o k) : fil M o k ∨ ((o = 420 ∨ o = 421) ∧ k = M 412 8) := by
  unfold fil at f
  rcases f with f | f | f | f | f | f | f | f | f
  · exact Or.inl (Or.inl (f))
  · by_cases ck : k = M 412 8
    · exact Or.inr (⟨f.1, ck⟩)
    · exact Or.inl (Or.inr (Or.inl (⟨f.1, by have := f.2; omega⟩)))
  · exact Or.inl (Or.inr (Or.inr (Or.inl (⟨f.1, by rw [← q9]; exact f.2⟩))))
  · exact Or.inl (Or.inr (Or.inr (Or.inr (Or.inl (⟨f.1, by rw [← q9]; exact f.2.1, by rw [← e424]; exact f.2.2⟩)))))
  · exact Or.inl (Or.inr (Or.inr (Or.inr (Or.inr (Or.inl (⟨f.1, by rw [← q10]; exact f.2⟩))))))
  · exact Or.inl (Or.inr (Or.inr (Or.inr (Or.inr (Or.inr (Or.inl (⟨f.1, by rw [← q10]; exact f.2.1, by rw [← e426]; exact f.2.2⟩)))))))
  · exact Or.inl (Or.inr (Or.inr (Or.inr (Or.inr (Or.inr (Or.inr (Or.inl (⟨f.1, by rw [← q11]; exact f.2⟩))))))))
  · exact Or.inl (Or.inr (Or.inr (Or.inr (Or.inr (Or.inr (Or.inr (Or.inr (Or.inl (⟨f.1, by rw [← q11]; exact f.2.1, by rw [← e431]; exact f.2.2⟩)))))))))
  · exact Or.inl (Or.inr (Or.inr (Or.inr (Or.inr (Or.inr (Or.inr (Or.inr (Or.inr (⟨f.1, by rw [← q11]; exact f.2.1, by rw [← e433]; exact f.2.2⟩)))))))))
theorem fil_addG {M M' : Nat → Nat → Nat} (q8 : M' 412 8 = M 412 8) (q9 : M' 412 9 = M 412 9 + 1) (q10 : M' 412 10 = M 412 10) (q11 : M' 412 11 = M 412 11) (e424 : ∀ g, g ≠ M 412 9 → M' 424 g = M 424 g) (e426 : ∀ g, M' 426 g = M 426 g) (e431 : ∀ g, M' 431 g = M 431 g) (e433 : ∀ g, M' 433 g = M 433 g) {o k : Nat} (f : fil M' o k) : fil M o k ∨ ((o = 422 ∨ o = 423 ∨ o = 424) ∧ k = M 412 9) ∨ (o = 445 ∧ k / 8 = M 412 9 ∧ k % 8 < M' 424 (M 412 9)) := by
  unfold fil at f
  rcases f with f | f | f | f | f | f | f | f | f
  · exact Or.inl (Or.inl (f))
  · exact Or.inl (Or.inr (Or.inl (⟨f.1, by rw [← q8]; exact f.2⟩)))
  · by_cases ck : k = M 412 9
    · exact Or.inr (Or.inl (⟨f.1, ck⟩))
    · exact Or.inl (Or.inr (Or.inr (Or.inl (⟨f.1, by have := f.2; omega⟩))))
  · by_cases ck : k / 8 = M 412 9
    · exact Or.inr (Or.inr (⟨f.1, ck, by rw [← ck]; exact f.2.2⟩))
    · exact Or.inl (Or.inr (Or.inr (Or.inr (Or.inl (⟨f.1, by have := f.2.1; omega, by rw [← e424 _ ck]; exact f.2.2⟩)))))
  · exact Or.inl (Or.inr (Or.inr (Or.inr (Or.inr (Or.inl (⟨f.1, by rw [← q10]; exact f.2⟩))))))
  · exact Or.inl (Or.inr (Or.inr (Or.inr (Or.inr (Or.inr (Or.inl (⟨f.1, by rw [← q10]; exact f.2.1, by rw [← e426]; exact f.2.2⟩)))))))
  · exact Or.inl (Or.inr (Or.inr (Or.inr (Or.inr (Or.inr (Or.inr (Or.inl (⟨f.1, by rw [← q11]; exact f.2⟩))))))))
  · exact Or.inl (Or.inr (Or.inr (Or.inr (Or.inr (Or.inr (Or.inr (Or.inr (Or.inl (⟨f.1, by rw [← q11]; exact f.2.1, by rw [← e431]; exact f.2.2⟩)))))))))
  · exact Or.inl (Or.inr (Or.inr (Or.inr (Or.inr (Or.inr (Or.inr (Or.inr (Or.inr (⟨f.1, by rw [← q11]; exact f.2.1, by rw [← e433]; exact f.2.2⟩)))))))))
theorem fil_addE {M M' : Nat → Nat → Nat} (q8 : M' 412 8 = M 412 8) (q9 : M' 412 9 = M 412 9) (q10 : M' 412 10 = M 412 10 + 1) (q11 : M' 412 11 = M 412 11) (e424 : ∀ g, M' 424 g = M 424 g) (e426 : ∀ g, g ≠ M 412 10 → M' 426 g = M 426 g) (e431 : ∀ g, M' 431 g = M 431 g) (e433 : ∀ g, M' 433 g = M 433 g) {o k : Nat} (f : fil M' o k) : fil M o k ∨ ((o = 425 ∨ o = 426) ∧ k = M 412 10) ∨ (o = 427 ∧ k / 6 = M 412 10 ∧ k % 6 < M' 426 (M 412 10)) := by
  unfold fil at f
  rcases f with f | f | f | f | f | f | f | f | f
  · exact Or.inl (Or.inl (f))
  · exact Or.inl (Or.inr (Or.inl (⟨f.1, by rw [← q8]; exact f.2⟩)))
  · exact Or.inl (Or.inr (Or.inr (Or.inl (⟨f.1, by rw [← q9]; exact f.2⟩))))
  · exact Or.inl (Or.inr (Or.inr (Or.inr (Or.inl (⟨f.1, by rw [← q9]; exact f.2.1, by rw [← e424]; exact f.2.2⟩)))))
  · by_cases ck : k = M 412 10
    · exact Or.inr (Or.inl (⟨f.1, ck⟩))
    · exact Or.inl (Or.inr (Or.inr (Or.inr (Or.inr (Or.inl (⟨f.1, by have := f.2; omega⟩))))))
  · by_cases ck : k / 6 = M 412 10
    · exact Or.inr (Or.inr (⟨f.1, ck, by rw [← ck]; exact f.2.2⟩))
    · exact Or.inl (Or.inr (Or.inr (Or.inr (Or.inr (Or.inr (Or.inl (⟨f.1, by have := f.2.1; omega, by rw [← e426 _ ck]; exact f.2.2⟩)))))))
  · exact Or.inl (Or.inr (Or.inr (Or.inr (Or.inr (Or.inr (Or.inr (Or.inl (⟨f.1, by rw [← q11]; exact f.2⟩))))))))
  · exact Or.inl (Or.inr (Or.inr (Or.inr (Or.inr (Or.inr (Or.inr (Or.inr (Or.inl (⟨f.1, by rw [← q11]; exact f.2.1, by rw [← e431]; exact f.2.2⟩)))))))))
  · exact Or.inl (Or.inr (Or.inr (Or.inr (Or.inr (Or.inr (Or.inr (Or.inr (Or.inr (⟨f.1, by rw [← q11]; exact f.2.1, by rw [← e433]; exact f.2.2⟩)))))))))
theorem fil_addK {M M' : Nat → Nat → Nat} (q8 : M' 412 8 = M 412 8) (q9 : M' 412 9 = M 412 9) (q10 : M' 412 10 = M 412 10) (q11 : M' 412 11 = M 412 11 + 1) (e424 : ∀ g, M' 424 g = M 424 g) (e426 : ∀ g, M' 426 g = M 426 g) (e431 : ∀ g, g ≠ M 412 11 → M' 431 g = M 431 g) (e433 : ∀ g, g ≠ M 412 11 → M' 433 g = M 433 g) {o k : Nat} (f : fil M' o k) : fil M o k ∨ ((o = 428 ∨ o = 429 ∨ o = 430 ∨ o = 431 ∨ o = 433) ∧ k = M 412 11) ∨ (o = 432 ∧ k / 6 = M 412 11 ∧ k % 6 < M' 431 (M 412 11)) ∨ (o = 434 ∧ k / 5 = M 412 11 ∧ k % 5 < M' 433 (M 412 11)) := by
  unfold fil at f
  rcases f with f | f | f | f | f | f | f | f | f
  · exact Or.inl (Or.inl (f))
  · exact Or.inl (Or.inr (Or.inl (⟨f.1, by rw [← q8]; exact f.2⟩)))
  · exact Or.inl (Or.inr (Or.inr (Or.inl (⟨f.1, by rw [← q9]; exact f.2⟩))))
  · exact Or.inl (Or.inr (Or.inr (Or.inr (Or.inl (⟨f.1, by rw [← q9]; exact f.2.1, by rw [← e424]; exact f.2.2⟩)))))
  · exact Or.inl (Or.inr (Or.inr (Or.inr (Or.inr (Or.inl (⟨f.1, by rw [← q10]; exact f.2⟩))))))
  · exact Or.inl (Or.inr (Or.inr (Or.inr (Or.inr (Or.inr (Or.inl (⟨f.1, by rw [← q10]; exact f.2.1, by rw [← e426]; exact f.2.2⟩)))))))
  · by_cases ck : k = M 412 11
    · exact Or.inr (Or.inl (⟨f.1, ck⟩))
    · exact Or.inl (Or.inr (Or.inr (Or.inr (Or.inr (Or.inr (Or.inr (Or.inl (⟨f.1, by have := f.2; omega⟩))))))))
  · by_cases ck : k / 6 = M 412 11
    · exact Or.inr (Or.inr (Or.inl (⟨f.1, ck, by rw [← ck]; exact f.2.2⟩)))
    · exact Or.inl (Or.inr (Or.inr (Or.inr (Or.inr (Or.inr (Or.inr (Or.inr (Or.inl (⟨f.1, by have := f.2.1; omega, by rw [← e431 _ ck]; exact f.2.2⟩)))))))))
  · by_cases ck : k / 5 = M 412 11
    · exact Or.inr (Or.inr (Or.inr (⟨f.1, ck, by rw [← ck]; exact f.2.2⟩)))
    · exact Or.inl (Or.inr (Or.inr (Or.inr (Or.inr (Or.inr (Or.inr (Or.inr (Or.inr (⟨f.1, by have := f.2.1; omega, by rw [← e433 _ ck]; exact f.2.2⟩)))))))))
theorem fil_in {M : Nat → Nat → Nat} {o k : Nat} (h : fil M o k) : 418 ≤ o ∧ o < 446 ∧ o ≠ 419 ∧ (o < 435 ∨ o = 445) := by unfold fil at h; omega
section
variable {h h0 : aH} {tx : Nat → Nat} {n s : Nat} {M : Nat → Nat → Nat} {A : Nat → Nat → Prop} {w : Nat}
theorem RV.rf : RV A w h h := ⟨fun _ _ _ _ => rfl, fun _ _ => rfl⟩
theorem RV.trans {h1 h2 : aH} (x : RV A w h h1) (y : RV A w h1 h2) : RV A w h h2 := ⟨fun o k q1 q2 => (y.1 o k q1 q2).trans (x.1 o k q1 q2), fun k q => (y.2 k q).trans (x.2 k q)⟩
theorem RZ.rv {h1 : aH} (x : RZ h h1) : RV A w h h1 := ⟨fun o k q _ => x.2.2.2.2.2.1 o k q, fun k _ => x.2.2.2.2.2.2 _ _ (by omega)⟩
theorem RNm.rv {h1 : aH} (x : RNm w h h1) : RV A w h h1 := ⟨fun o k q _ => x.2.2.2.2.2.1 o k q, fun k q => x.2.2.2.2.2.2 _ _ (by omega)⟩
theorem RV.si {o k : Nat} {x : Int32} (ho : A o k) : RV A w h (h_si h o k x) := ⟨fun a b _ q => si_ne (fun e => q (by rw [e.1, e.2]; exact ho)), fun _ _ => rfl⟩
theorem RM.rv (R : RM tx n M h) {h1 : aH} (x : RV A w h h1) (a1 : ∀ o k, fil M o k → ¬ A (nu o) k) (a2 : ∀ k, ¬ A 412 k ∧ ¬ A 440 k ∧ ¬ A 441 k) (a3 : ∀ so i, so < 4 → i < nmN M so → nmB so + i ≠ w) : RM tx n M h1 := by
  obtain ⟨⟨r1, r2, r3, r4, r5⟩, r6, r7, r8⟩ := R
  obtain ⟨x1, x2⟩ := x
  have sx : ∀ k, 38 ≤ k → ¬ RSx 412 k := fun k hk => by unfold RSx; omega
  refine ⟨⟨by rw [x1 _ _ (sx _ (by omega)) (a2 _).1]; exact r1, by rw [x1 _ _ (sx _ (by omega)) (a2 _).1]; exact r2, by rw [x1 _ _ (sx _ (by omega)) (a2 _).1]; exact r3, by rw [x1 _ _ (sx _ (by omega)) (a2 _).1]; exact r4, by rw [x1 _ _ (sx _ (by omega)) (a2 _).1]; exact r5⟩, fun o k f => ?_, fun k hk => ?_, fun so hso i hi => ?_⟩
  · have f1 := fil_in f
    have f2 := nu_in f1.1 f1.2.1
    rw [x1 _ _ (by unfold RSx; omega) (a1 o k f)]; exact r6 o k f
  · rw [x1 441 k (by unfold RSx; omega) (a2 k).2.2, x1 440 k (by unfold RSx; omega) (a2 k).2.1]; exact r7 k hk
  · have := r8 so hso i hi
    rw [x2 _ (a3 so i hso hi)]; exact this
theorem RM.add (R : RM tx n M h) {h1 : aH} {M' : Nat → Nat → Nat} (x : RV A w h h1) (c : h_iv h1 412 39 = nI (M' 412 8) ∧ h_iv h1 412 40 = nI (M' 412 40) ∧ h_iv h1 412 41 = nI (M' 412 9) ∧ h_iv h1 412 42 = nI (M' 412 10) ∧ h_iv h1 412 43 = nI (M' 412 11)) (old : ∀ o k, fil M' o k → (fil M o k ∧ M' o k = M o k ∧ ¬ A (nu o) k) ∨ h_iv h1 (nu o) k = nI (M' o k)) (tr : ∀ k, M' 441 k = M 441 k ∧ M' 440 k = M 440 k ∧ ¬ A 440 k ∧ ¬ A 441 k) (nm : ∀ so, so < 4 → NY tx n M' so (nmN M' so) h1) : RM tx n M' h1 := by
  obtain ⟨-, r6, r7, -⟩ := R
  refine ⟨c, fun o k f => ?_, fun k hk => ?_, nm⟩
  · rcases old o k f with ⟨q1, q2, q3⟩ | q
    · have f1 := fil_in q1
      have f2 := nu_in f1.1 f1.2.1
      rw [x.1 _ _ (by unfold RSx; omega) q3, q2]; exact r6 o k q1
    · exact q
  · obtain ⟨t1, t2, t3, t4⟩ := tr k
    rw [x.1 441 k (by unfold RSx; omega) t4, x.1 440 k (by unfold RSx; omega) t3, t1, t2]; exact r7 k hk
theorem nm_out {sN : Nat} (hD : PlD M) (hs : sN < 4) (hb : nmN M sN < (if sN = 0 then 12 else if sN = 2 then 5 else 6)) {so i : Nat} (hso : so < 4) (hi : i < nmN M so) : nmB so + i ≠ nmB sN + nmN M sN := by
  have k1 := nm_iv (Q := 4) hso (Nat.lt_of_lt_of_le hi (nmN_le hD hso))
  have k2 := nm_iv (Q := 4) hs hb
  by_cases c : so = sN
  · subst c; omega
  · omega
theorem ny_add (N : ∀ so, so < 4 → NY tx n M so (nmN M so) h) (hD : PlD M) {h1 : aH} {M' : Nat → Nat → Nat} {sN s1 : Nat} (hs : sN < 4) (hb : nmN M sN < (if sN = 0 then 12 else if sN = 2 then 5 else 6)) (ec : nmN M' sN = nmN M sN + 1) (eo : ∀ so, so < 4 → so ≠ sN → nmN M' so = nmN M so) (m5 : ∀ k, M' 419 k = if k = nmB sN + nmN M sN then s1 else M 419 k) (nd : nmd tx n s1 = true) (l1 : h_lv h1 437 (nmB sN + nmN M sN) = lN (cd tx n s1)) (lv : ∀ k, k ≠ nmB sN + nmN M sN → h_lv h1 437 k = h_lv h 437 k) : ∀ so, so < 4 → NY tx n M' so (nmN M' so) h1 := fun so hso i hi => by
  have old : i < nmN M so → nmd tx n (M' 419 (nmB so + i)) = true ∧ h_lv h1 437 (nmB so + i) = lN (cd tx n (M' 419 (nmB so + i))) := fun q => by
    have ne := nm_out hD hs hb hso q
    rw [m5, if_neg ne, lv _ ne]
    exact N so hso i q
  by_cases c : so = sN
  · subst c
    rw [ec] at hi
    by_cases ci : i = nmN M so
    · rw [ci, m5, if_pos rfl]; exact ⟨nd, l1⟩
    · exact old (by omega)
  · rw [eo so hso c] at hi
    exact old hi
theorem y_faultB {e : ER} (b : BE n h0 h e) {x y : Int32} : m_X12_fault 412 x y h = some ((), h) := by
  have z1 : (nI 1 = nI 0) = False := eq_false (by decide)
  simp (maxSteps := 3000000) (disch := first | assumption | omega) only [m_X12_fault, bO_v, bR_v, bX_l, bX_r, bC_l, bC_r, aJ_v, aLet_v, nI_add, pk_mul, dvI_n, rmI_n, iMax_n, iMin_n, zO_0, zO_1, li_0, li_1, li_2, li_3, li_4, li_5, li_6, li_7, li_8, li_9, li_10, li_12, li_14, li_15, li_16, li_18, li_19, li_20, li_22, li_23, li_24, li_26, li_29, li_30, li_31, li_32, li_36, li_38, li_48, li_50, li_57, li_58, li_59, li_60, li_63, li_97, li_99, li_120, li_122, li_144, li_168, li_194, li_240, li_255, li_284, li_299, li_603, li_999, li_1200, li_1440, li_4095, li_4096, li_6030, li_16384, li_20160, zl0, zl1, zl2, zl3, zl4, ze01, ze02, ze03, ze04, ze10, ze12, ze13, ze14, ze20, ze21, ze23, ze24, ze30, ze31, ze32, ze34, ze40, ze41, ze42, ze43, zt0, zt1, zt2, zt3, zt4, zq0, zq1, zq2, zq3, zq4, it_t, it_f, Bool.true_eq_false, Bool.false_eq_true, na5, na4, na1441, na2, na10, sx_IOIA, sx_IOIS, sx_IONS, sx_IAIO, sx_IAIS, sx_IANS, sx_ISIO, sx_ISIA, sx_ISNS, sx_NSIO, sx_NSIA, sx_NSIS, r_cM_gi b.1, b.2.2.2.1, z1]
/-- what an item leaves: it was read, or no semicolon can follow -/
def YI (tx : Nat → Nat) (n : Nat) (h0 : aH) (r : (Nat → Nat → Nat) × Nat) (_ : Unit) (h1 : aH) : Prop := (GS tx n h0 h1 r.2 ∧ RM tx n r.1 h1) ∨ (BE n h0 h1 (1, r.2) ∧ tok tx n r.2 ≠ 3)
theorem y_pB {k : aH → Option (Unit × aH)} {e : ER} (b : BE n h0 h e) : aL0 (m_X12_person_L42 412 k) FU h = k h := by
  have z1 : (nI 1 = nI 0) = False := eq_false (by decide)
  refine aL0_run (R := fun o => o = k h) (fun m g => m = 0 ∧ g = h) ⟨rfl, rfl⟩ (by omega) ?_
  rintro rec m g ⟨rfl, rfl⟩ ih
  simp (maxSteps := 3000000) (disch := first | assumption | omega) only [m_X12_person_L42, bO_v, bR_v, bX_l, bX_r, bC_l, bC_r, aJ_v, aLet_v, nI_add, pk_mul, dvI_n, rmI_n, iMax_n, iMin_n, zO_0, zO_1, li_0, li_1, li_2, li_3, li_4, li_5, li_6, li_7, li_8, li_9, li_10, li_12, li_14, li_15, li_16, li_18, li_19, li_20, li_22, li_23, li_24, li_26, li_29, li_30, li_31, li_32, li_36, li_38, li_48, li_50, li_57, li_58, li_59, li_60, li_63, li_97, li_99, li_120, li_122, li_144, li_168, li_194, li_240, li_255, li_284, li_299, li_603, li_999, li_1200, li_1440, li_4095, li_4096, li_6030, li_16384, li_20160, zl0, zl1, zl2, zl3, zl4, ze01, ze02, ze03, ze04, ze10, ze12, ze13, ze14, ze20, ze21, ze23, ze24, ze30, ze31, ze32, ze34, ze40, ze41, ze42, ze43, zt0, zt1, zt2, zt3, zt4, zq0, zq1, zq2, zq3, zq4, it_t, it_f, Bool.true_eq_false, Bool.false_eq_true, na5, na4, na1441, na2, na10, sx_IOIA, sx_IOIS, sx_IONS, sx_IAIO, sx_IAIS, sx_IANS, sx_ISIO, sx_ISIA, sx_ISNS, sx_NSIO, sx_NSIA, sx_NSIS, r_cM_gi b.1, b.2.2.2.1, z1]
theorem yi_bad {e : ER} {sp : ER ⊕ ((Nat → Nat → Nat) × Nat)} (b : BE n h0 h e) (hs : sp = .inl e ∨ ∃ a, sp = .inr a ∧ e = (1, a.2) ∧ tok tx n a.2 ≠ 3) : YP n h0 (some ((), h)) sp (fun _ _ => True) (YI tx n h0) := by
  rcases hs with q | ⟨a, q, rfl, t⟩
  · rw [q]; exact ok_ret ⟨b, trivial⟩
  · rw [q]; exact ok_ret (Or.inr ⟨b, t⟩)
theorem yi_good {a : (Nat → Nat → Nat) × Nat} {sp : ER ⊕ ((Nat → Nat → Nat) × Nat)} (hs : sp = .inr a) (G : GS tx n h0 h a.2) (R : RM tx n a.1 h) : YP n h0 (some ((), h)) sp (fun _ _ => True) (YI tx n h0) := by
  rw [hs]; exact ok_ret (Or.inl ⟨G, R⟩)
end
