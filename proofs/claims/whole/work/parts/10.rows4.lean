/-! arrays -/
theorem TYS_at (cA : Nat → ClassId) {t : Nat} (ht : t < 9) : (TYS cA)[t]? = some (cA t, TYL.getD t .int) := by
  simp [TYS, List.getElem?_range ht]
theorem aC_si {z : Nat} {D : va_G} {cA : Nat → ClassId} {h : aH} {H H1 : Heap} {ob t j : Nat} {x : Int32} (ht : t < 3) (ho : aC z D cA h ob H) (hs : h_sh h ob = t + 1)
    (e : H1[z + ob]? = some ((arrV (cA t) (h_ln h ob) (fun j => .int (h_iv h ob j))).setSlot j (.int x))) : aC z D cA (h_si h ob j x) ob H1 := by
  refine ⟨ho.1, ?_, ?_, ?_, ?_⟩
  · intro t' ht' (hs' : h_sh h ob = t' + 1)
    have htt : t' = t := by omega
    subst htt
    rw [e, arrV_store]
    congr 2
    funext q
    show updV _ j _ q = Value.int (up2 (h_iv h) ob j x ob q)
    by_cases hq : q = j
    · subst hq; rw [up2_s]; simp [updV]
    · rw [up2, if_neg (fun w => hq w.2)]; simp [updV, hq]
  · intro (hs' : h_sh h ob = 4); omega
  · intro t' h4 h9 (hs' : h_sh h ob = t' + 1); omega
  · intro c (hs' : h_sh h ob = 10 + c); omega
theorem aC_sL {z : Nat} {D : va_G} {cA : Nat → ClassId} {h : aH} {H H1 : Heap} {ob j : Nat} {x : Int64} (ho : aC z D cA h ob H) (hs : h_sh h ob = 4)
    (e : H1[z + ob]? = some ((arrV (cA 3) (h_ln h ob) (fun j => .long (h_lv h ob j))).setSlot j (.long x))) : aC z D cA (h_sL h ob j x) ob H1 := by
  refine ⟨ho.1, ?_, ?_, ?_, ?_⟩
  · intro t' ht' (hs' : h_sh h ob = t' + 1); omega
  · intro (hs' : h_sh h ob = 4)
    rw [e, arrV_store]
    congr 2
    funext q
    show updV _ j _ q = Value.long (up2 (h_lv h) ob j x ob q)
    by_cases hq : q = j
    · subst hq; rw [up2_s]; simp [updV]
    · rw [up2, if_neg (fun w => hq w.2)]; simp [updV, hq]
  · intro t' h4 h9 (hs' : h_sh h ob = t' + 1); omega
  · intro c (hs' : h_sh h ob = 10 + c); omega
theorem aC_sr {z : Nat} {D : va_G} {cA : Nat → ClassId} {h : aH} {H H1 : Heap} {ob t j x : Nat} (h4 : 4 ≤ t) (h9 : t < 9) (ho : aC z D cA h ob H) (hs : h_sh h ob = t + 1) (hx : x ≠ 0)
    (e : H1[z + ob]? = some ((arrV (cA t) (h_ln h ob) (fun j => rfv z (h_rv h ob j))).setSlot j (.ref (z + x)))) : aC z D cA (h_sr h ob j x) ob H1 := by
  refine ⟨ho.1, ?_, ?_, ?_, ?_⟩
  · intro t' ht' (hs' : h_sh h ob = t' + 1); omega
  · intro (hs' : h_sh h ob = 4); omega
  · intro t' h4 h9 (hs' : h_sh h ob = t' + 1)
    have htt : t' = t := by omega
    subst htt
    rw [e, arrV_store]
    congr 2
    funext q
    show updV _ j _ q = rfv z (up2 (h_rv h) ob j x ob q)
    by_cases hq : q = j
    · subst hq; rw [up2_s]; simp [updV, rfv, hx]
    · rw [up2, if_neg (fun w => hq w.2)]; simp [updV, hq]
  · intro c (hs' : h_sh h ob = 10 + c); omega
theorem rp_of {i : Int32} {n : Nat} {cA : ClassId} {f : Nat → Value} (h : 0 ≤ i.toInt ∧ i.toInt < n) : ¬ (i < 0 ∨ (arrV cA n f).slots.size ≤ i.toNatClampNeg) := by
  rw [arrV_size]; exact vin_of h.1 h.2
theorem rd_of {i : Int32} {n : Nat} {cA : ClassId} {f : Nat → Value} (h : 0 ≤ i.toInt ∧ i.toInt < n) : (arrV cA n f).slots[i.toNatClampNeg]? = some (f i.toNatClampNeg) :=
  arrV_read _ _ (by have := h.2; have := h.1; show i.toInt.toNat < n; omega)
section GGS5
variable {α β γ σ κ : Type} {em : α → aR} {l : Launch} {E : aE} {M : aM} {d lr n0 m0 pc tgt : Nat} {lv lv' : List (Nat × Value)} {st st' : List Value} {h h1 : aH} {o o1 o2 : Option (α × aH)}
theorem CX.arr {p : Program} {s : State} {m : MethodId} {meth : Method} {c : Code} (hC : CX l E M n0 p s m meth c) {t : Nat} (ht : t < 9) : ArrOfT s (e_cA E t) (TYL.getD t .int) ∧ va_RA s (e_cA E t) (TYL.getD t .int) := hC.2.2.2.2.2.2.1.2.1.2 t (e_cA E t, TYL.getD t .int) (TYS_at _ ht)
theorem g_iald {ob : Nat} {i : Int32} {f : Int32 → Option (α × aH)} (hd : decode M.2.1 pc = .ok (.iaload, 1)) (kk : ∀ v, GG em l E M d lr n0 m0 (pc + 1) lv (.int v :: st) h (f v)) : GG em l E M d lr n0 m0 pc lv (.int i :: .ref (e_z E + ob) :: st) h (bO (ali h 1 ob i) f) := by
  by_cases hs : h_sh h ob = 1 ∧ 0 ≤ i.toInt ∧ i.toInt < h_ln h ob
  · rw [ali, if_pos hs]
    refine g_lift (kk _) (fun p e R s m args below meth c9 H locs cells slots ls Q hC _ _ _ _ hH _ _ w => ?_)
    exact W.iald (v := .int (h_iv h ob i.toNatClampNeg)) hC.1 hC.2.1 ((hH.2.2 ob).2.1 0 (by decide) hs.1) ((hC.arr (t := 0) (by decide)).1 _ _) (fun q => by cases q) (rp_of hs.2) (rd_of (f := fun j => .int (h_iv h ob j)) hs.2) rfl rfl hd w
  · rw [ali, if_neg hs]; exact g_none
theorem g_bald {ob : Nat} {i : Int32} {f : Int32 → Option (α × aH)} (hd : decode M.2.1 pc = .ok (.baload, 1)) (kk : ∀ v, GG em l E M d lr n0 m0 (pc + 1) lv (.int v :: st) h (f v)) : GG em l E M d lr n0 m0 pc lv (.int i :: .ref (e_z E + ob) :: st) h (bO (ali h 2 ob i) f) := by
  by_cases hs : h_sh h ob = 2 ∧ 0 ≤ i.toInt ∧ i.toInt < h_ln h ob
  · rw [ali, if_pos hs]
    refine g_lift (kk _) (fun p e R s m args below meth c9 H locs cells slots ls Q hC _ _ _ _ hH _ _ w => ?_)
    exact W.bald (v := .int (h_iv h ob i.toNatClampNeg)) hC.1 hC.2.1 ((hH.2.2 ob).2.1 1 (by decide) hs.1) ((hC.arr (t := 1) (by decide)).1 _ _) (fun q => by cases q) (rp_of hs.2) (rd_of (f := fun j => .int (h_iv h ob j)) hs.2) rfl rfl hd w
  · rw [ali, if_neg hs]; exact g_none
theorem g_zald {ob : Nat} {i : Int32} {f : Int32 → Option (α × aH)} (hd : decode M.2.1 pc = .ok (.baload, 1)) (kk : ∀ v, GG em l E M d lr n0 m0 (pc + 1) lv (.int v :: st) h (f v)) : GG em l E M d lr n0 m0 pc lv (.int i :: .ref (e_z E + ob) :: st) h (bO (ali h 3 ob i) f) := by
  by_cases hs : h_sh h ob = 3 ∧ 0 ≤ i.toInt ∧ i.toInt < h_ln h ob
  · rw [ali, if_pos hs]
    refine g_lift (kk _) (fun p e R s m args below meth c9 H locs cells slots ls Q hC _ _ _ _ hH _ _ w => ?_)
    exact W.zald (v := .int (h_iv h ob i.toNatClampNeg)) hC.1 hC.2.1 ((hH.2.2 ob).2.1 2 (by decide) hs.1) ((hC.arr (t := 2) (by decide)).1 _ _) (fun q => by cases q) (rp_of hs.2) (rd_of (f := fun j => .int (h_iv h ob j)) hs.2) rfl rfl hd w
  · rw [ali, if_neg hs]; exact g_none
theorem g_lald {ob : Nat} {i : Int32} {f : Int64 → Option (α × aH)} (hd : decode M.2.1 pc = .ok (.laload, 1)) (kk : ∀ v, GG em l E M d lr n0 m0 (pc + 1) lv (.long v :: st) h (f v)) : GG em l E M d lr n0 m0 pc lv (.int i :: .ref (e_z E + ob) :: st) h (bO (alL h ob i) f) := by
  by_cases hs : h_sh h ob = 4 ∧ 0 ≤ i.toInt ∧ i.toInt < h_ln h ob
  · rw [alL, if_pos hs]
    refine g_lift (kk _) (fun p e R s m args below meth c9 H locs cells slots ls Q hC _ _ _ _ hH _ _ w => ?_)
    exact W.lald (v := .long (h_lv h ob i.toNatClampNeg)) hC.1 hC.2.1 ((hH.2.2 ob).2.2.1 hs.1) ((hC.arr (t := 3) (by decide)).1 _ _) (fun q => by cases q) (rp_of hs.2) (rd_of (f := fun j => .long (h_lv h ob j)) hs.2) rfl rfl hd w
  · rw [alL, if_neg hs]; exact g_none
theorem TYL_ref {t : Nat} (h4 : 4 ≤ t) (h9 : t < 9) : ∃ C, TYL.getD t .int = .object C := by
  match t, h4, h9 with
  | 4, _, _ => exact ⟨_, rfl⟩
  | 5, _, _ => exact ⟨_, rfl⟩
  | 6, _, _ => exact ⟨_, rfl⟩
  | 7, _, _ => exact ⟨_, rfl⟩
  | 8, _, _ => exact ⟨_, rfl⟩
theorem g_aald {t ob : Nat} {i : Int32} {f : Nat → Option (α × aH)} (h4 : 4 ≤ t) (h9 : t < 9) (hd : decode M.2.1 pc = .ok (.aaload, 1)) (kk : ∀ v, GG em l E M d lr n0 m0 (pc + 1) lv (.ref (e_z E + v) :: st) h (f v)) : GG em l E M d lr n0 m0 pc lv (.int i :: .ref (e_z E + ob) :: st) h (bO (alr h (t + 1) ob i) f) := by
  by_cases hs : h_sh h ob = t + 1 ∧ 0 ≤ i.toInt ∧ i.toInt < h_ln h ob ∧ h_rv h ob i.toNatClampNeg ≠ 0
  · rw [alr, if_pos hs]
    refine g_lift (kk _) (fun p e R s m args below meth c9 H locs cells slots ls Q hC _ _ _ _ hH _ _ w => ?_)
    have hb : 0 ≤ i.toInt ∧ i.toInt < h_ln h ob := ⟨hs.2.1, hs.2.2.1⟩
    obtain ⟨C, hC9⟩ := TYL_ref h4 h9
    have hA := (hC.arr h9).1
    rw [hC9] at hA
    exact W.aald (v := .ref (e_z E + h_rv h ob i.toNatClampNeg)) (ty := .object C) hC.1 hC.2.1 ((hH.2.2 ob).2.2.2.1 t h4 h9 hs.1) (hA _ _) rfl (fun q => by cases q) (rp_of hb) ((rd_of (f := fun j => rfv (e_z E) (h_rv h ob j)) hb).trans (congrArg some (if_neg hs.2.2.2))) rfl rfl hd w
  · rw [alr, if_neg hs]; exact g_none
theorem g_iast {ob : Nat} {i x : Int32} {f : aH → Option (α × aH)} (hd : decode M.2.1 pc = .ok (.iastore, 1)) (kk : ∀ h1, GG em l E M d lr n0 m0 (pc + 1) lv st h1 (f h1)) : GG em l E M d lr n0 m0 pc lv (.int x :: .int i :: .ref (e_z E + ob) :: st) h (bO (asi h ob i x) f) := by
  by_cases hs : h_sh h ob = 1 ∧ 0 ≤ i.toInt ∧ i.toInt < h_ln h ob
  · rw [asi, if_pos hs]
    refine g_write (h1 := h_si h ob i.toNatClampNeg x) (ob := ob) rfl rfl rfl rfl (fun _ q => up2_o q) (fun _ _ => rfl) (fun _ _ => rfl) (by omega) (kk _) (fun p e R s m args below meth c9 H locs cells slots ls Q hC _ _ hH _ w => ?_)
    exact W.iast hC.1 hC.2.1 ((hH.2.2 ob).2.1 0 (by decide) hs.1) ((hC.arr (t := 0) (by decide)).1 _ _) (fun q => by cases q) (rp_of hs.2) rfl rfl hd (fun H' e1 e2 e3 => w H' _ (aC_si (t := 0) (by decide) (hH.2.2 ob) hs.1 e1) e2 e3)
  · rw [asi, if_neg hs]; exact g_none
theorem g_bast {ob : Nat} {i x : Int32} {f : aH → Option (α × aH)} (hd : decode M.2.1 pc = .ok (.bastore, 1)) (kk : ∀ h1, GG em l E M d lr n0 m0 (pc + 1) lv st h1 (f h1)) : GG em l E M d lr n0 m0 pc lv (.int x :: .int i :: .ref (e_z E + ob) :: st) h (bO (asb h ob i x) f) := by
  by_cases hs : h_sh h ob = 2 ∧ 0 ≤ i.toInt ∧ i.toInt < h_ln h ob
  · rw [asb, if_pos hs]
    refine g_write (h1 := h_si h ob i.toNatClampNeg x.toInt8.toInt32) (ob := ob) rfl rfl rfl rfl (fun _ q => up2_o q) (fun _ _ => rfl) (fun _ _ => rfl) (by omega) (kk _) (fun p e R s m args below meth c9 H locs cells slots ls Q hC _ _ hH _ w => ?_)
    exact W.bast hC.1 hC.2.1 ((hH.2.2 ob).2.1 1 (by decide) hs.1) ((hC.arr (t := 1) (by decide)).1 _ _) (fun q => by cases q) (rp_of hs.2) rfl rfl hd (fun H' e1 e2 e3 => w H' _ (aC_si (t := 1) (by decide) (hH.2.2 ob) hs.1 e1) e2 e3)
  · rw [asb, if_neg hs]; exact g_none
theorem g_zast {ob : Nat} {i x : Int32} {f : aH → Option (α × aH)} (hd : decode M.2.1 pc = .ok (.bastore, 1)) (kk : ∀ h1, GG em l E M d lr n0 m0 (pc + 1) lv st h1 (f h1)) : GG em l E M d lr n0 m0 pc lv (.int x :: .int i :: .ref (e_z E + ob) :: st) h (bO (asz h ob i x) f) := by
  by_cases hs : h_sh h ob = 3 ∧ 0 ≤ i.toInt ∧ i.toInt < h_ln h ob ∧ (x = 0 ∨ x = 1)
  · rw [asz, if_pos hs]
    have hb : 0 ≤ i.toInt ∧ i.toInt < h_ln h ob := ⟨hs.2.1, hs.2.2.1⟩
    refine g_write (h1 := h_si h ob i.toNatClampNeg x) (ob := ob) rfl rfl rfl rfl (fun _ q => up2_o q) (fun _ _ => rfl) (fun _ _ => rfl) (by omega) (kk _) (fun p e R s m args below meth c9 H locs cells slots ls Q hC _ _ hH _ w => ?_)
    refine W.zast hC.1 hC.2.1 ((hH.2.2 ob).2.1 2 (by decide) hs.1) ((hC.arr (t := 2) (by decide)).1 _ _) (fun q => by cases q) (rp_of hb) rfl rfl hd (fun H' e1 e2 e3 => w H' _ (aC_si (t := 2) (by decide) (hH.2.2 ob) hs.1 ?_) e2 e3)
    rcases hs.2.2.2 with rfl | rfl <;> exact e1
  · rw [asz, if_neg hs]; exact g_none
theorem g_last {ob : Nat} {i : Int32} {x : Int64} {f : aH → Option (α × aH)} (hd : decode M.2.1 pc = .ok (.lastore, 1)) (kk : ∀ h1, GG em l E M d lr n0 m0 (pc + 1) lv st h1 (f h1)) : GG em l E M d lr n0 m0 pc lv (.long x :: .int i :: .ref (e_z E + ob) :: st) h (bO (asL h ob i x) f) := by
  by_cases hs : h_sh h ob = 4 ∧ 0 ≤ i.toInt ∧ i.toInt < h_ln h ob
  · rw [asL, if_pos hs]
    refine g_write (h1 := h_sL h ob i.toNatClampNeg x) (ob := ob) rfl rfl rfl rfl (fun _ _ => rfl) (fun _ q => up2_o q) (fun _ _ => rfl) (by omega) (kk _) (fun p e R s m args below meth c9 H locs cells slots ls Q hC _ _ hH _ w => ?_)
    exact W.last hC.1 hC.2.1 ((hH.2.2 ob).2.2.1 hs.1) ((hC.arr (t := 3) (by decide)).1 _ _) (fun q => by cases q) (rp_of hs.2) rfl rfl hd (fun H' e1 e2 e3 => w H' _ (aC_sL (hH.2.2 ob) hs.1 e1) e2 e3)
  · rw [asL, if_neg hs]; exact g_none
theorem g_aast {t c ob x : Nat} {i : Int32} {C : String} {T : u_T} {N : Nat} {f : aH → Option (α × aH)} (h4 : 4 ≤ t) (h9 : t < 9) (hc : CL[c]? = some (C, T, N)) (hty : TYL.getD t .int = .object C) (hd : decode M.2.1 pc = .ok (.aastore, 1)) (kk : ∀ h1, GG em l E M d lr n0 m0 (pc + 1) lv st h1 (f h1)) : GG em l E M d lr n0 m0 pc lv (.ref (e_z E + x) :: .int i :: .ref (e_z E + ob) :: st) h (bO (asr h (t + 1) c ob i x) f) := by
  by_cases hs : h_sh h ob = t + 1 ∧ 0 ≤ i.toInt ∧ i.toInt < h_ln h ob ∧ h_sh h x = 10 + c
  · rw [asr, if_pos hs]
    have hb : 0 ≤ i.toInt ∧ i.toInt < h_ln h ob := ⟨hs.2.1, hs.2.2.1⟩
    refine g_write (h1 := h_sr h ob i.toNatClampNeg x) (ob := ob) rfl rfl rfl rfl (fun _ _ => rfl) (fun _ _ => rfl) (fun _ q => up2_o q) (by omega) (kk _) (fun p e R s m args below meth c9 H locs cells slots ls Q hC _ _ hH _ w => ?_)
    obtain ⟨r, r1, cellV, g1, g2, g3, -⟩ := (hH.2.2 x).2.2.2.2 c hs.2.2.2
    cases Option.some.inj (r1.symm.trans hc)
    have hcls := (hC.2.2.2.2.2.2.1.2.1.1 c _ hc).2
    have hA := (hC.arr h9).2
    rw [hty] at hA
    obtain ⟨kA, comp, k1, k2, k3, -⟩ := hA
    have hcomp : comp = (e_D E).1 c := Option.some.inj (k3.symm.trans hcls.1)
    subst hcomp
    obtain ⟨kC, hkC, -⟩ := hcls.2
    have hv := rp_of (cA := e_cA E t) (f := fun j => rfv (e_z E) (h_rv h ob j)) hb
    exact W.aast hC.1 hC.2.1 ((hH.2.2 ob).2.2.2.1 t h4 h9 hs.1) (fun q h => by cases h) (fun h => by cases h) k1 k2 rfl hkC ⟨fun z => hv (Or.inl z), Nat.not_le.mp (fun z => hv (Or.inr z))⟩ g1 (fun q h => by rw [g3] at h; cases h) (by rw [g2]; exact hkC) (by rw [g2]; exact va_assign hcls) rfl rfl hd
      (fun H' e1 e2 e3 => w H' _ (aC_sr h4 h9 (hH.2.2 ob) hs.1 (by have := (hH.lt (k := x) (by omega)).1; exact this) e1) e2 e3)
  · rw [asr, if_neg hs]; exact g_none
theorem g_alen {ob : Nat} {f : Int32 → Option (α × aH)} (hd : decode M.2.1 pc = .ok (.arraylength, 1)) (kk : ∀ v, GG em l E M d lr n0 m0 (pc + 1) lv (.int v :: st) h (f v)) : GG em l E M d lr n0 m0 pc lv (.ref (e_z E + ob) :: st) h (bO (aln h ob) f) := by
  by_cases hs : 1 ≤ h_sh h ob ∧ h_sh h ob < 10
  · rw [aln, if_pos hs]
    refine g_lift (kk _) (fun p e R s m args below meth c9 H locs cells slots ls Q hC _ _ _ _ hH _ _ w => ?_)
    obtain ⟨-, b1, b2, b3, -⟩ := hH.2.2 ob
    have hh : ∃ t f, t < 9 ∧ H[e_z E + ob]? = some (arrV (e_cA E t) (h_ln h ob) f) := by
      by_cases h3 : h_sh h ob < 4
      · exact ⟨h_sh h ob - 1, _, by omega, b1 (h_sh h ob - 1) (by omega) (by omega)⟩
      · by_cases h4 : h_sh h ob = 4
        · exact ⟨3, _, by omega, b2 h4⟩
        · exact ⟨h_sh h ob - 1, _, by omega, b3 (h_sh h ob - 1) (by omega) (by omega) (by omega)⟩
    obtain ⟨t, f, ht, hcell⟩ := hh
    exact W.alen (n := nI (h_ln h ob)) hC.1 hC.2.1 hcell ((hC.arr ht).1 _ _) (by rw [arrV_size]; rfl) rfl rfl hd w
  · rw [aln, if_neg hs]; exact g_none
/-- a cell is made -/
theorem g_make {pc' t n : Nat} {f : Nat → aH → Option (α × aH)} (k : ∀ q h1, GG em l E M d lr n0 m0 pc' lv (.ref (e_z E + q) :: st') h1 (f q h1))
    (ff : ∀ (p : Program) (e : Env) (R : Room) (s : State) (m : MethodId) (args : Array Value) (below : List Frame) (meth : Method) (c : Code) (H : Heap) (locs : List Loc) (cells slots : Nat) (ls : Array Slot) (Q : State → Prop),
      CX l E M n0 p s m meth c → d ≤ R.frames → lr ≤ R.locals → cells + 1 ≤ R.cells → slots + n ≤ R.slots → HR (e_z E) (e_D E) (e_cA E) h H → lv_has ls M.2.2.1 lv →
      (∀ (H1 : Heap), aC (e_z E) (e_D E) (e_cA E) (h_new h t n) (h_nx h) H1 → H1.size = H.size + 1 → (∀ q, q < H.size → H1[q]? = H[q]?) → W p l e R s m args below meth c H1 locs (cells + 1) (slots + n) Q (F0 m pc' ls (.ref H.size :: st'))) → W p l e R s m args below meth c H locs cells slots Q (F0 m pc ls st)) :
    GG em l E M d lr n0 m0 pc lv st h (bN h t n f) := by
  intro r h' ho
  obtain ⟨a1, a2, a3⟩ := k (h_nx h) (h_new h t n) r h' ho
  have b1 : h_nx (h_new h t n) = h_nx h + 1 := rfl
  have b2 : h_sl (h_new h t n) = h_sl h + n := rfl
  refine ⟨by omega, by omega, fun p e R s m args below meth c H locs cells slots ls Q hC hd hr9 hc hs9 e1 e2 hH hS hl9 hQ => ?_⟩
  refine ff p e R s m args below meth c H locs cells slots ls Q hC hd hr9 (by omega) (by omega) hH hl9 (fun H1 g1 g2 g3 => ?_)
  rw [hH.1]
  refine a3 p e R s m args below meth c H1 _ _ _ ls Q hC hd hr9 hc hs9 (by omega) (by omega) (hH.mk b1 (fun _ q => up1_o q) (fun _ q => up1_o q) (fun _ q => up1_o q) (fun _ q => up1_o q) (fun _ q => up1_o q) g2 g3 g1) ?_ hl9 hQ
  exact ⟨by rw [g2]; have := hS.1; omega, fun q q1 q2 => (g3 q (Nat.lt_of_lt_of_le q1 hS.1)).trans (hS.2.1 q q1 q2), hS.2.2⟩
theorem h_new_sh {h : aH} {t n : Nat} : h_sh (h_new h t n) (h_nx h) = t := up1_s
theorem h_new_ln {h : aH} {t n : Nat} : h_ln (h_new h t n) (h_nx h) = n := up1_s
theorem h_new_iv {h : aH} {t n : Nat} : h_iv (h_new h t n) (h_nx h) = fun _ => 0 := up1_s
theorem h_new_lv {h : aH} {t n : Nat} : h_lv (h_new h t n) (h_nx h) = fun _ => 0 := up1_s
theorem h_new_rv {h : aH} {t n : Nat} : h_rv (h_new h t n) (h_nx h) = fun _ => 0 := up1_s
theorem aC_ni {z : Nat} {D : va_G} {cA : Nat → ClassId} {h : aH} {H1 : Heap} {t n : Nat} (ht : t < 3) (h0 : 0 < h_nx h) (e : H1[z + h_nx h]? = some (arrV (cA t) n (fun _ => .int 0))) : aC z D cA (h_new h (t + 1) n) (h_nx h) H1 := by
  refine ⟨fun _ => ⟨by omega, Nat.lt_succ_self _⟩, ?_, ?_, ?_, ?_⟩
  · intro t' ht' hs'
    rw [h_new_sh] at hs'
    have htt : t' = t := by omega
    subst htt
    rw [e, h_new_ln, h_new_iv]
  · intro hs'; rw [h_new_sh] at hs'; omega
  · intro t' h4 h9 hs'; rw [h_new_sh] at hs'; omega
  · intro c hs'; rw [h_new_sh] at hs'; omega
theorem aC_nL {z : Nat} {D : va_G} {cA : Nat → ClassId} {h : aH} {H1 : Heap} {n : Nat} (h0 : 0 < h_nx h) (e : H1[z + h_nx h]? = some (arrV (cA 3) n (fun _ => .long 0))) : aC z D cA (h_new h 4 n) (h_nx h) H1 := by
  refine ⟨fun _ => ⟨by omega, Nat.lt_succ_self _⟩, ?_, ?_, ?_, ?_⟩
  · intro t' ht' hs'; rw [h_new_sh] at hs'; omega
  · intro hs'; rw [e, h_new_ln, h_new_lv]
  · intro t' h4 h9 hs'; rw [h_new_sh] at hs'; omega
  · intro c hs'; rw [h_new_sh] at hs'; omega
theorem aC_nr {z : Nat} {D : va_G} {cA : Nat → ClassId} {h : aH} {H1 : Heap} {t n : Nat} (h4 : 4 ≤ t) (h9 : t < 9) (h0 : 0 < h_nx h) (e : H1[z + h_nx h]? = some (arrV (cA t) n (fun _ => .null))) : aC z D cA (h_new h (t + 1) n) (h_nx h) H1 := by
  refine ⟨fun _ => ⟨by omega, Nat.lt_succ_self _⟩, ?_, ?_, ?_, ?_⟩
  · intro t' ht' hs'; rw [h_new_sh] at hs'; omega
  · intro hs'; rw [h_new_sh] at hs'; omega
  · intro t' h4 h9 hs'
    rw [h_new_sh] at hs'
    have htt : t' = t := by omega
    subst htt
    rw [e, h_new_ln, h_new_rv]; rfl
  · intro c hs'; rw [h_new_sh] at hs'; omega
theorem fval_new {z : Nat} {h : aH} {t n k : Nat} {ty : FieldType} (hk : okT ty = true) : fval z (h_new h t n) (h_nx h) k ty = defaultValue ty := by
  cases ty <;> first | (simp [okT] at hk; done) | (simp [fval, h_new_iv, defaultValue]; done) | (simp [fval, h_new_lv, defaultValue]; done) | (simp [fval, h_new_rv, rfv, defaultValue]; done) | (simp [fval, h_new_iv]; rfl) | (simp [fval, h_new_lv]; rfl) | (simp [fval, h_new_rv, rfv]; rfl)
/-- new arrays of numbers: t is 0, 1, 2, 3 for int, byte, boolean, long -/
def atT (t : Nat) (a : ArrayType) : Prop := (t < 3 ∧ defaultValue (newarray.typeOf a) = .int 0 ∨ t = 3 ∧ defaultValue (newarray.typeOf a) = .long 0) ∧ newarray.typeOf a = TYL.getD t .int ∧ componentBytes (newarray.typeOf a) ≤ 8
theorem g_newa {t n : Nat} {x : Int32} {a : ArrayType} {f : Nat → aH → Option (α × aH)} (ha : atT t a) (hw : Cond.arrayClass (newarray.typeOf a) ∈ lw_tbl) (hn : ¬ x < 0 ∧ x.toNatClampNeg = n) (hn9 : n ≤ 100000) (hd : decode M.2.1 pc = .ok (.newarray a, 2))
    (k : ∀ q h1, GG em l E M d lr n0 m0 (pc + 2) lv (.ref (e_z E + q) :: st) h1 (f q h1)) : GG em l E M d lr n0 m0 pc lv (.int x :: st) h (bN h (t + 1) n f) := by
  refine g_make k (fun p e R s m args below meth c9 H locs cells slots ls Q hC _ _ hc hs hH _ w => ?_)
  refine va_newaK hC.1 hC.2.1 (tb_use hC.2.2.2.2.2.2.1.1 hw rfl) rfl hd rfl hn.1 hn.2 (by have h1 := Nat.mul_le_mul hn9 ha.2.2; omega) hc hs rfl fun H1 cA e1 e2 e3 _ e5 => ?_
  have ht : t < 9 := by rcases ha.1 with q | q <;> omega
  have hA := (hC.arr ht).2
  have hcA : cA = e_cA E t := by
    rw [ha.2.1] at e5
    refine Option.some.inj (e5.symm.trans ?_)
    have h2 := ha.2.1
    cases a <;> (rw [← h2] at hA ⊢; exact hA)
  subst hcA
  rw [hH.1] at e1
  refine w H1 ?_ e2 e3
  rcases ha.1 with ⟨q1, q2⟩ | ⟨q1, q2⟩
  · rw [q2] at e1; exact aC_ni q1 hH.2.1 e1
  · subst q1; rw [q2] at e1; exact aC_nL hH.2.1 e1
/-- .. of references -/
theorem g_newq {t n i : Nat} {x : Int32} {C : String} {f : Nat → aH → Option (α × aH)} (h4 : 4 ≤ t) (h9 : t < 9) (hty : TYL.getD t .int = .object C) (hw : Cond.classLink M.1 i C ∈ lw_tbl) (ho : C ∈ AOL) (hn : ¬ x < 0 ∧ x.toNatClampNeg = n) (hn9 : n ≤ 100000) (hd : decode M.2.1 pc = .ok (.anewarray i, 3))
    (k : ∀ q h1, GG em l E M d lr n0 m0 (pc + 3) lv (.ref (e_z E + q) :: st) h1 (f q h1)) : GG em l E M d lr n0 m0 pc lv (.int x :: st) h (bN h (t + 1) n f) := by
  refine g_make k (fun p e R s m args below meth c9 H locs cells slots ls Q hC _ _ hc hs hH _ w => ?_)
  have hW := hC.2.2.2.2.2.2.1
  refine W.anew hC.1 hC.2.1 hC.2.2.2.2.2.1 (tb_use hW.1 hw rfl) (va_AO.use (hW.2.2.2.2.2.2.2.1 C ho)) rfl hd rfl hn.1 (by rw [hn.2]; omega) hc (by rw [hn.2]; exact hs) fun cA kA comp f1 f2 f3 f4 => ?_
  have hA := (hC.arr h9).2
  rw [hty] at hA
  obtain ⟨kA', comp', k1, k2, k3, k4⟩ := hA
  have hcA : cA = e_cA E t := Option.some.inj (f1.symm.trans k4)
  subst hcA
  rw [hn.2]
  generalize hH1 : H.push ({ cls := e_cA E t, slots := Array.replicate n .null, vm := .none } : Cell) = H1
  have z1 : H1.size = H.size + 1 := by rw [← hH1, Array.size_push]
  have e1 : H1[H.size]? = some (arrV (e_cA E t) n (fun _ => .null)) := by rw [← hH1, Array.getElem?_push_size, ← arrV_new]
  have o1 : ∀ q : Nat, q < H.size → H1[q]? = H[q]? := fun q hq => by rw [← hH1, Array.getElem?_push, if_neg (Nat.ne_of_lt hq)]
  rw [hH.1] at e1
  exact w H1 (aC_nr h4 h9 hH.2.1 e1) z1 o1
/-- a new object -/
theorem g_newo {c n i : Nat} {C : String} {T : u_T} {N : Nat} {f : Nat → aH → Option (α × aH)} (hc9 : CL[c]? = some (C, T, N)) (hw : Cond.classLink M.1 i C ∈ lw_tbl) (hw2 : Cond.instantiable C n ∈ lw_tbl) (hw3 : Cond.initialized C ∈ lw_tbl) (hd : decode M.2.1 pc = .ok (.new i, 3))
    (k : ∀ q h1, GG em l E M d lr n0 m0 (pc + 3) lv (.ref (e_z E + q) :: st) h1 (f q h1)) : GG em l E M d lr n0 m0 pc lv st h (bN h (10 + c) n f) := by
  refine g_make k (fun p e R s m args below meth c9 H locs cells slots ls Q hC _ _ hc hs hH _ w => ?_)
  have hW := hC.2.2.2.2.2.2.1
  have hK := hW.2.1.1 c _ hc9
  refine W.newcK hC.1 hC.2.1 hC.2.2.2.2.2.1 (tb_use hW.1 hw rfl) (tb_use hW.1 hw2 rfl) (tb_use hW.1 hw3 rfl) rfl hd hc hs hK.2.1 rfl fun H1 kC h2 e1 e2 e3 => ?_
  refine w H1 ?_ e2 e3
  have hob := u_born (T := T) (N := N) (args := #[]) (ws := u_ws C T N) (ct c) (fun w9 hw9 => tb_use hW.1 (CL_in c _ hc9 w9 hw9).1 (CL_in c _ hc9 w9 hw9).2) (fun _ hw9 => hw9) hK h2 e1 (CL_ty c _ hc9).1
  rw [hH.1] at hob
  refine ⟨fun _ => ⟨by have := hH.2.1; omega, Nat.lt_succ_self _⟩, ?_, ?_, ?_, ?_⟩
  · intro t' ht' hs'; rw [h_new_sh] at hs'; omega
  · intro hs'; rw [h_new_sh] at hs'; omega
  · intro t' h4 h9 hs'; rw [h_new_sh] at hs'; omega
  · intro c' hs'
    rw [h_new_sh] at hs'
    have hcc : c' = c := by omega
    subst hcc
    exact ⟨_, hc9, hob.to (fun k hk => (fval_new (CL_ok c' _ hc9 k hk)).symm)⟩
/-- what stands below on the stack -/
def cats (st : List Value) : Nat := (st.map fun v => v.category).sum
theorem g_objInit {i ob : Nat} (hw : Cond.methodLink M.1 i Lib.objectInit ∈ lw_tbl) (hw2 : Cond.instanceMethod Lib.objectInit ∈ lw_tbl) (hw3 : Cond.code Lib.objectInit ⟨#[0xb1]⟩ 1 none ∈ lw_tbl) (hf : 1 ≤ d) (hl : cats st + 12 ≤ lr) (hd : decode M.2.1 pc = .ok (.invokespecial i, 3))
    (k : GG em l E M d lr n0 m0 (pc + 3) lv st h o) : GG em l E M d lr n0 m0 pc lv (.ref (e_z E + ob) :: st) h o := by
  refine g_lift k (fun p e R s m args below meth c9 H locs cells slots ls Q hC hf9 hl9 _ _ hH _ hv w => ?_)
  have hW := hC.2.2.2.2.2.2.1
  exact W.objInit hC.1 hC.2.1 hC.2.2.2.2.2.1 (tb_use hW.1 hw rfl) (tb_use hW.1 hw2 rfl) (tb_use hW.1 hw3 rfl) rfl (hv.1.trans hC.2.2.2.2.1.symm) rfl hd (by omega) (by show 2 * 0 + cats st + 12 ≤ _; omega) w
theorem g_mmax {i : Nat} {x y : Int32} (hw : Cond.methodLink M.1 i Lib.Math.max.name ∈ lw_tbl) (hw2 : Cond.static Lib.Math.max.name ∈ lw_tbl) (hw3 : Cond.initialized "java/lang/Math" ∈ lw_tbl) (hw4 : Cond.code Lib.Math.max.name Lib.Math.max.code 2 (some .int) ∈ lw_tbl) (hf : 1 ≤ d) (hl : cats st + 13 ≤ lr) (hd : decode M.2.1 pc = .ok (.invokestatic i, 3))
    (k : GG em l E M d lr n0 m0 (pc + 3) lv (.int (iMax x y) :: st) h o) : GG em l E M d lr n0 m0 pc lv (.int y :: .int x :: st) h o := by
  refine g_lift k (fun p e R s m args below meth c9 H locs cells slots ls Q hC hf9 hl9 hc hs hH _ hv w => ?_)
  have hW := hC.2.2.2.2.2.2.1
  exact va_mmax hC.1 hC.2.1 (hC.2.2.2.2.1.trans hv.1.symm) hC.2.2.2.2.2.1 (tb_use hW.1 hw rfl) (tb_use hW.1 hw2 rfl) (tb_use hW.1 hw3 rfl) (tb_use hW.1 hw4 rfl) (by omega) (by show cats st + 13 ≤ _; omega) hc hs hd w
theorem g_mmin {i : Nat} {x y : Int32} (hw : Cond.methodLink M.1 i Lib.Math.min.name ∈ lw_tbl) (hw2 : Cond.static Lib.Math.min.name ∈ lw_tbl) (hw3 : Cond.initialized "java/lang/Math" ∈ lw_tbl) (hw4 : Cond.code Lib.Math.min.name Lib.Math.min.code 2 (some .int) ∈ lw_tbl) (hf : 1 ≤ d) (hl : cats st + 13 ≤ lr) (hd : decode M.2.1 pc = .ok (.invokestatic i, 3))
    (k : GG em l E M d lr n0 m0 (pc + 3) lv (.int (iMin x y) :: st) h o) : GG em l E M d lr n0 m0 pc lv (.int y :: .int x :: st) h o := by
  refine g_lift k (fun p e R s m args below meth c9 H locs cells slots ls Q hC hf9 hl9 hc hs hH _ hv w => ?_)
  have hW := hC.2.2.2.2.2.2.1
  exact va_mmin hC.1 hC.2.1 (hC.2.2.2.2.1.trans hv.1.symm) hC.2.2.2.2.2.1 (tb_use hW.1 hw rfl) (tb_use hW.1 hw2 rfl) (tb_use hW.1 hw3 rfl) (tb_use hW.1 hw4 rfl) (by omega) (by show cats st + 13 ≤ _; omega) hc hs hd w
end GGS5
