/-! the class's reader: a pager -/
/-- cells of a thing that isn't counted yet -/
def FrA (Q : Nat) (M : Nat → Nat → Nat) (o : Nat) : Prop := (M 412 9 < 6 ∧ (o = Q + 20 + 2 * M 412 9 ∨ o = Q + 21 + 2 * M 412 9)) ∨ (M 412 10 < 5 ∧ Q + 32 + 3 * M 412 10 ≤ o ∧ o ≤ Q + 34 + 3 * M 412 10) ∨ (M 412 11 < 6 ∧ Q + 47 + 3 * M 412 11 ≤ o ∧ o ≤ Q + 49 + 3 * M 412 11)
section
variable {h h0 : aH} {tx : Nat → Nat} {n Q s : Nat} {M : Nat → Nat → Nat}
theorem PQ.qw (p : PQ tx n Q M h) {A : Nat → Nat → Prop} {B : Nat} {h1 : aH} (W : QW A B h h1) (hD : PlD M) (hQ : Q ∈ plL) (hA : ∀ o k, A o k → FrA Q M o) (hB : FrA Q M B) : PQ tx n Q M h1 := by
  have q := pl_in Q hQ
  have d0 := hD.nP
  have d1 := hD.nG
  have d2 := hD.nE
  have d3 := hD.nK
  obtain ⟨y1, y2, y3, y4, y5⟩ := p
  have iv : ∀ o k, o ≠ 3 → ¬ FrA Q M o → h_iv h1 o k = h_iv h o k := fun o k q1 q2 => W.2.1 o k q1 (fun a => q2 (hA o k a))
  have lv : ∀ o, o ≠ 3 → ¬ FrA Q M o → h_lv h1 o 0 = h_lv h o 0 := fun o q1 q2 => W.2.2 o 0 q1 (fun a => q2 (a.1 ▸ hB))
  unfold FrA at iv lv
  refine ⟨?_, fun so hso i hi => ?_, ?_, fun k hk => ?_, fun g hg j hj => ?_⟩
  · refine ⟨fun j hj => ?_, ?_, ?_, ?_, ?_, fun u hu => ?_, fun u hu => ?_, fun u hu => ?_, fun u hu => ?_, fun u hu => ?_, fun u hu => ?_, fun u hu => ?_, fun u hu v hv => ?_, fun u hu v hv => ?_, fun u hu => ?_, fun u hu => ?_, fun u hu => ?_, fun u hu => ?_, fun u hu v hv => ?_, fun u hu => ?_, fun u hu v hv => ?_, fun k hk => ?_⟩ <;> rw [iv _ _ (by omega) (by omega)]
    · exact y1.ni j hj
    · exact y1.nP
    · exact y1.nG
    · exact y1.nE
    · exact y1.nK
    · exact y1.trv u hu
    · exact y1.skl u hu
    · exact y1.dem u hu
    · exact y1.trn u hu
    · exact y1.plc u hu
    · exact y1.drv u hu
    · exact y1.pst u hu
    · exact y1.psk u hu v hv
    · exact y1.dmd u hu v hv
    · exact y1.dur u hu
    · exact y1.pat u hu
    · exact y1.ned u hu
    · exact y1.kgn u hu
    · exact y1.kg u hu v hv
    · exact y1.ken u hu
    · exact y1.ke u hu v hv
    · exact y1.able k hk
  · have r := y2 so hso i hi
    refine ⟨r.1, ?_⟩
    rcases (show so = 0 ∨ so = 1 ∨ so = 2 ∨ so = 3 by omega) with c | c | c | c <;> subst c
    · change i < M 412 8 at hi
      show h_lv h1 (Q + 8 + 1 * i) 0 = _
      rw [lv _ (by omega) (by omega)]; exact r.2
    · change i < M 412 9 at hi
      show h_lv h1 (Q + 20 + 2 * i) 0 = _
      rw [lv _ (by omega) (by omega)]; exact r.2
    · change i < M 412 10 at hi
      show h_lv h1 (Q + 32 + 3 * i) 0 = _
      rw [lv _ (by omega) (by omega)]; exact r.2
    · change i < M 412 11 at hi
      show h_lv h1 (Q + 47 + 3 * i) 0 = _
      rw [lv _ (by omega) (by omega)]; exact r.2
  · rw [iv _ _ (by omega) (by omega)]; exact y3
  · rw [iv _ _ (by omega) (by omega)]; exact y4 k hk
  · rw [iv _ _ (by omega) (by omega)]; exact y5 g hg j hj
theorem nm_iv {s x : Nat} (hs : s < 4) (hx : x < (if s = 0 then 12 else if s = 2 then 5 else 6)) : (s = 0 ∧ nmB s + x < 12 ∧ nmO Q s x < Q + 20) ∨ (s = 1 ∧ 12 ≤ nmB s + x ∧ nmB s + x < 18 ∧ Q + 20 ≤ nmO Q s x ∧ nmO Q s x < Q + 32) ∨ (s = 2 ∧ 18 ≤ nmB s + x ∧ nmB s + x < 23 ∧ Q + 32 ≤ nmO Q s x ∧ nmO Q s x < Q + 47) ∨ (s = 3 ∧ 23 ≤ nmB s + x ∧ Q + 47 ≤ nmO Q s x) := by
  rcases (show s = 0 ∨ s = 1 ∨ s = 2 ∨ s = 3 by omega) with c | c | c | c <;> subst c
  · change x < 12 at hx
    refine Or.inl ⟨rfl, ?_, ?_⟩
    · show 0 + x < 12; omega
    · show Q + 8 + 1 * x < Q + 20; omega
  · change x < 6 at hx
    refine Or.inr (Or.inl ⟨rfl, ?_, ?_, ?_, ?_⟩)
    · show 12 ≤ 12 + x; omega
    · show 12 + x < 18; omega
    · show Q + 20 ≤ Q + 20 + 2 * x; omega
    · show Q + 20 + 2 * x < Q + 32; omega
  · change x < 5 at hx
    refine Or.inr (Or.inr (Or.inl ⟨rfl, ?_, ?_, ?_, ?_⟩))
    · show 18 ≤ 18 + x; omega
    · show 18 + x < 23; omega
    · show Q + 32 ≤ Q + 32 + 3 * x; omega
    · show Q + 32 + 3 * x < Q + 47; omega
  · change x < 6 at hx
    refine Or.inr (Or.inr (Or.inr ⟨rfl, ?_, ?_⟩))
    · show 23 ≤ 23 + x; omega
    · show Q + 47 ≤ Q + 47 + 3 * x; omega
/-- names of the old things and of one new thing -/
theorem nq_add (p : PQ tx n Q M h) (hD : PlD M) {h1 : aH} {M' : Nat → Nat → Nat} {sN s1 : Nat} (hs : sN < 4) (hb : nmN M sN < (if sN = 0 then 12 else if sN = 2 then 5 else 6)) (ec : nmN M' sN = nmN M sN + 1) (eo : ∀ so, so < 4 → so ≠ sN → nmN M' so = nmN M so) (m5 : ∀ k, M' 419 k = if k = nmB sN + nmN M sN then s1 else M 419 k) (nd : nmd tx n s1 = true) (l1 : h_lv h1 (nmO Q sN (nmN M sN)) 0 = lN (nm32 tx n s1)) (lv : ∀ o, o ≠ nmO Q sN (nmN M sN) → Q ≤ o → o < Q + 65 → h_lv h1 o 0 = h_lv h o 0) : ∀ so, so < 4 → NQ tx n Q M' so (nmN M' so) h1 := fun so hso i hi => by
  have l0 := nmN_le hD (so := 0) (by omega)
  have l1' := nmN_le hD (so := 1) (by omega)
  have l2 := nmN_le hD (so := 2) (by omega)
  have l3 := nmN_le hD (so := 3) (by omega)
  change nmN M 0 ≤ 12 at l0
  change nmN M 1 ≤ 6 at l1'
  change nmN M 2 ≤ 5 at l2
  change nmN M 3 ≤ 6 at l3
  have old : i < nmN M so → nmB so + i ≠ nmB sN + nmN M sN → nmO Q so i ≠ nmO Q sN (nmN M sN) → nmd tx n (M' 419 (nmB so + i)) = true ∧ h_lv h1 (nmO Q so i) 0 = lN (nm32 tx n (M' 419 (nmB so + i))) := fun q1 q2 q3 => by
    have r := nmO_in (Q := Q) hD hso q1
    rw [m5, if_neg q2, lv _ q3 r.1 r.2]
    exact p.2.1 so hso i q1
  by_cases c : so = sN
  · subst c
    rw [ec] at hi
    by_cases ci : i = nmN M so
    · subst ci
      rw [m5, if_pos rfl]; exact ⟨nd, l1⟩
    · refine old (by omega) (by omega) ?_
      rcases (show so = 0 ∨ so = 1 ∨ so = 2 ∨ so = 3 by omega) with c | c | c | c <;> subst c
      · show Q + 8 + 1 * i ≠ Q + 8 + 1 * nmN M 0; omega
      · show Q + 20 + 2 * i ≠ Q + 20 + 2 * nmN M 1; omega
      · show Q + 32 + 3 * i ≠ Q + 32 + 3 * nmN M 2; omega
      · show Q + 47 + 3 * i ≠ Q + 47 + 3 * nmN M 3; omega
  · rw [eo so hso c] at hi
    have k1 := nm_iv (Q := Q) hso (Nat.lt_of_lt_of_le hi (nmN_le hD hso))
    have k2 := nm_iv (Q := Q) hs hb
    exact old hi (by omega) (by omega)
end
