/-! the words of the shallow functions -/
def aLet {β γ : Type} (v : β) (f : β → γ) : γ := f v
def bO {β γ : Type} (x : Option β) (f : β → Option γ) : Option γ := x.bind f
def bR {β γ : Type} (x : Option (β × aH)) (f : β → aH → Option γ) : Option γ := x.bind (fun q => f q.1 q.2)
/-- a call that may throw: here it goes on to the caller -/
def bX {β γ : Type} (x : Option ((β ⊕ String) × aH)) (f : β → aH → Option ((γ ⊕ String) × aH)) : Option ((γ ⊕ String) × aH) := x.bind (fun q => match q.1 with | .inl v => f v q.2 | .inr X => some (.inr X, q.2))
/-- .. here it is caught -/
def bC {β γ : Type} (x : Option ((β ⊕ String) × aH)) (f : β → aH → Option γ) (g : String → aH → Option γ) : Option γ := x.bind (fun q => match q.1 with | .inl v => f v q.2 | .inr X => g X q.2)
def aJ {κ γ : Type} (k : κ) (f : κ → γ) : γ := f k
def aL {σ γ : Type} (F : (σ → aH → Option γ) → σ → aH → Option γ) : Nat → σ → aH → Option γ
  | 0, _, _ => none
  | n + 1, s, h => F (aL F n) s h
/-- every loop's fuel -/
def FU : Nat := 1000000
def bN {γ : Type} (h : aH) (t n : Nat) (f : Nat → aH → γ) : γ := f (h_nx h) (h_new h t n)
/-- fields: of class c, field k -/
def gi (h : aH) (c o k : Nat) : Option Int32 := if h_sh h o = 10 + c then some (h_iv h o k) else none
def gL (h : aH) (c o k : Nat) : Option Int64 := if h_sh h o = 10 + c then some (h_lv h o k) else none
def gr (h : aH) (c o k : Nat) : Option Nat := if h_sh h o = 10 + c ∧ h_rv h o k ≠ 0 then some (h_rv h o k) else none
def pi (h : aH) (c o k : Nat) (x : Int32) : Option aH := if h_sh h o = 10 + c then some (h_si h o k x) else none
def pz (h : aH) (c o k : Nat) (x : Int32) : Option aH := if h_sh h o = 10 + c ∧ (x = 0 ∨ x = 1) then some (h_si h o k x) else none
def pL (h : aH) (c o k : Nat) (x : Int64) : Option aH := if h_sh h o = 10 + c then some (h_sL h o k x) else none
def pr (h : aH) (c o k : Nat) (x : Nat) : Option aH := if h_sh h o = 10 + c ∧ x ≠ 0 then some (h_sr h o k x) else none
/-- arrays of shape t -/
def inI (i : Int32) (n : Nat) : Prop := 0 ≤ i.toInt ∧ i.toInt < n
def ali (h : aH) (t o : Nat) (i : Int32) : Option Int32 := if h_sh h o = t ∧ 0 ≤ i.toInt ∧ i.toInt < h_ln h o then some (h_iv h o i.toNatClampNeg) else none
def alL (h : aH) (o : Nat) (i : Int32) : Option Int64 := if h_sh h o = 4 ∧ 0 ≤ i.toInt ∧ i.toInt < h_ln h o then some (h_lv h o i.toNatClampNeg) else none
def alr (h : aH) (t o : Nat) (i : Int32) : Option Nat := if h_sh h o = t ∧ 0 ≤ i.toInt ∧ i.toInt < h_ln h o ∧ h_rv h o i.toNatClampNeg ≠ 0 then some (h_rv h o i.toNatClampNeg) else none
def asi (h : aH) (o : Nat) (i x : Int32) : Option aH := if h_sh h o = 1 ∧ 0 ≤ i.toInt ∧ i.toInt < h_ln h o then some (h_si h o i.toNatClampNeg x) else none
def asb (h : aH) (o : Nat) (i x : Int32) : Option aH := if h_sh h o = 2 ∧ 0 ≤ i.toInt ∧ i.toInt < h_ln h o then some (h_si h o i.toNatClampNeg x.toInt8.toInt32) else none
def asz (h : aH) (o : Nat) (i x : Int32) : Option aH := if h_sh h o = 3 ∧ 0 ≤ i.toInt ∧ i.toInt < h_ln h o ∧ (x = 0 ∨ x = 1) then some (h_si h o i.toNatClampNeg x) else none
def asL (h : aH) (o : Nat) (i : Int32) (x : Int64) : Option aH := if h_sh h o = 4 ∧ 0 ≤ i.toInt ∧ i.toInt < h_ln h o then some (h_sL h o i.toNatClampNeg x) else none
/-- an object of class c into an array of its kind -/
def asr (h : aH) (t c o : Nat) (i : Int32) (x : Nat) : Option aH := if h_sh h o = t ∧ 0 ≤ i.toInt ∧ i.toInt < h_ln h o ∧ h_sh h x = 10 + c then some (h_sr h o i.toNatClampNeg x) else none
def aln (h : aH) (o : Nat) : Option Int32 := if 1 ≤ h_sh h o ∧ h_sh h o < 10 then some (nI (h_ln h o)) else none
def dvI (x y : Int32) : Option Int32 := if y = 0 then none else some (x / y)
def rmI (x y : Int32) : Option Int32 := if y = 0 then none else some (x - x / y * y)
def zO (x : Int32) : Option Int32 := if x = 0 ∨ x = 1 then some x else none
/-- System.arraycopy of ints -/
def acp (h : aH) (s : Nat) (sp : Int32) (t : Nat) (dp n : Int32) : Option aH :=
  if h_sh h s = 1 ∧ h_sh h t = 1 ∧ 0 ≤ sp.toInt ∧ 0 ≤ dp.toInt ∧ 0 ≤ n.toInt ∧ sp.toInt + n.toInt ≤ h_ln h s ∧ dp.toInt + n.toInt ≤ h_ln h t then some (h_copy h t (va_cpy (h_iv h s) (h_iv h t) sp.toNatClampNeg dp.toNatClampNeg n.toNatClampNeg)) else none
theorem bO_s {β γ : Type} {x : Option β} {f : β → Option γ} {r : γ} (h : bO x f = some r) : ∃ v, x = some v ∧ f v = some r := by
  cases x with
  | none => cases h
  | some v => exact ⟨v, rfl, h⟩
theorem vin_of {i : Int32} {n : Nat} (h1 : 0 ≤ i.toInt) (h2 : i.toInt < n) : vp_in i n := vp_in_iff.mpr ⟨h1, h2⟩
section GGS3
variable {α β γ σ κ : Type} {em : α → aR} {l : Launch} {E : aE} {M : aM} {d lr n0 m0 pc tgt : Nat} {lv lv' : List (Nat × Value)} {st st' : List Value} {h : aH} {o o1 o2 : Option (α × aH)}
/-- names -/
theorem g_topi {e : Int32} {f : Int32 → Option (α × aH)} (k : ∀ x, GG em l E M d lr n0 m0 pc lv (.int x :: st) h (f x)) : GG em l E M d lr n0 m0 pc lv (.int e :: st) h (aLet e f) := k e
theorem g_topl {e : Int64} {f : Int64 → Option (α × aH)} (k : ∀ x, GG em l E M d lr n0 m0 pc lv (.long x :: st) h (f x)) : GG em l E M d lr n0 m0 pc lv (.long e :: st) h (aLet e f) := k e
/-- a place that several roads reach: P says what it is -/
theorem g_join (P : κ → Prop) {kx : κ} {f : κ → Option (α × aH)} (h1 : P kx) (h2 : ∀ k', P k' → GG em l E M d lr n0 m0 pc lv st h (f k')) : GG em l E M d lr n0 m0 pc lv st h (aJ kx f) := h2 kx h1
theorem g_loop {F : (σ → aH → Option (α × aH)) → σ → aH → Option (α × aH)} (LV : σ → List (Nat × Value)) (k : ∀ rec, (∀ s h, GG em l E M d lr n0 m0 pc (LV s) st h (rec s h)) → ∀ s h, GG em l E M d lr n0 m0 pc (LV s) st h (F rec s h)) :
    ∀ n s h, GG em l E M d lr n0 m0 pc (LV s) st h (aL F n s h) := by
  intro n
  induction n with
  | zero => exact fun s h => g_none
  | succ n ih => exact fun s h => k _ ih s h
/-- returns -/
theorem g_ret {r : α} {ig : Instr} {v : Option Value} (hr : em r = .inl v) (hi : isRet ig M.2.2.2.1 v) (hd : decode M.2.1 pc = .ok (ig, 1)) (hst : v.toList = st) : GG em l E M d lr n0 m0 pc lv st h (some (r, h)) := by
  subst hst
  intro r' h' ho
  cases ho
  refine ⟨Nat.le_refl _, Nat.le_refl _, fun p e R s m args below meth c H locs cells slots ls Q hC hd9 hr9 hc hs h1 h2 hH hS hl hQ => ?_⟩
  exact hQ.1 pc ig v H locs cells slots ls hr hi hd hH hS h1 h2
theorem isRet_v : isRet .return_ none none := Or.inl ⟨rfl, rfl, rfl⟩
theorem isRet_i (x : Int32) : isRet .ireturn (some .int) (some (.int x)) := Or.inr (Or.inl ⟨rfl, x, .int, rfl, rfl, rfl⟩)
theorem isRet_z {x : Int32} (hx : x = 0 ∨ x = 1) : isRet .ireturn (some .boolean) (some (.int x)) := Or.inr (Or.inl ⟨rfl, x, .boolean, rfl, rfl, by rcases hx with rfl | rfl <;> rfl⟩)
theorem isRet_l (x : Int64) : isRet .lreturn (some .long) (some (.long x)) := Or.inr (Or.inr (Or.inl ⟨rfl, rfl, x, rfl⟩))
theorem isRet_a (n : String) (a : Nat) : isRet .areturn (some (.object n)) (some (.ref a)) := Or.inr (Or.inr (Or.inr ⟨rfl, n, a, rfl, rfl⟩))
/-- a boolean that is handed back -/
theorem g_zO {x : Int32} {f : Int32 → Option (α × aH)} (k : x = 0 ∨ x = 1 → GG em l E M d lr n0 m0 pc lv st h (f x)) : GG em l E M d lr n0 m0 pc lv st h (bO (zO x) f) := by
  by_cases hx : x = 0 ∨ x = 1
  · rw [zO, if_pos hx]; exact k hx
  · rw [zO, if_neg hx]; exact g_none
theorem g_idiv {x y : Int32} {f : Int32 → Option (α × aH)} (hd : decode M.2.1 pc = .ok (.idiv, 1)) (k : ∀ v, GG em l E M d lr n0 m0 (pc + 1) lv (.int v :: st) h (f v)) : GG em l E M d lr n0 m0 pc lv (.int y :: .int x :: st) h (bO (dvI x y) f) := by
  by_cases hy : y = 0
  · rw [dvI, if_pos hy]; exact g_none
  · rw [dvI, if_neg hy]; exact g_lift (k (x / y)) (fun _ _ _ _ _ _ _ _ _ _ _ _ _ _ _ hC _ _ _ _ _ _ _ w => lv_idiv hC.1 hC.2.1 hd hy w)
theorem g_irem {x y : Int32} {f : Int32 → Option (α × aH)} (hd : decode M.2.1 pc = .ok (.irem, 1)) (k : ∀ v, GG em l E M d lr n0 m0 (pc + 1) lv (.int v :: st) h (f v)) : GG em l E M d lr n0 m0 pc lv (.int y :: .int x :: st) h (bO (rmI x y) f) := by
  by_cases hy : y = 0
  · rw [rmI, if_pos hy]; exact g_none
  · rw [rmI, if_neg hy]; exact g_lift (k (x - x / y * y)) (fun _ _ _ _ _ _ _ _ _ _ _ _ _ _ _ hC _ _ _ _ _ _ _ w => lv_irem hC.1 hC.2.1 hd hy w)
/-- a word that links a field -/
def fLk (own : String) (i : Nat) (q : String × String × String × Bool) : Prop := Cond.fieldLink own i q.1 q.2.1 q.2.2.1 ∈ lw_tbl ∨ ∃ host, Cond.fieldLinkNest own i q.1 q.2.1 q.2.2.1 host ∈ lw_tbl
/-- a field is read -/
theorem g_get {i c k : Nat} {C : String} {T : u_T} {N : Nat} {v : Value} {ob : Nat} (hc : CL[c]? = some (C, T, N)) (hk : k < N) (hw : fLk M.1 i (T k)) (hd : decode M.2.1 pc = .ok (.getfield i, 3)) (hs : h_sh h ob = 10 + c) (hv : fval (e_z E) h ob k (ct c k) = v)
    (kk : GG em l E M d lr n0 m0 (pc + 3) lv (v :: st) h o) : GG em l E M d lr n0 m0 pc lv (.ref (e_z E + ob) :: st) h o := by
  refine g_lift kk (fun p e R s m args below meth c9 H locs cells slots ls Q hC _ _ _ _ hH _ _ w => ?_)
  obtain ⟨r, h1, cell, q1, q2, q3, q4⟩ := (hH.2.2 ob).2.2.2.2 c hs
  cases Option.some.inj (h1.symm.trans hc)
  obtain ⟨hx, hb, -, -, -, hown, hW, -⟩ := hC
  have hK := hW.2.1
  obtain ⟨hS, hfc, kC, hkC, hkind⟩ := hK.1 c _ hc
  obtain ⟨cf, kf, fi, f, hi, hsl⟩ := hS k hk
  have hlay : (Cond.lays C (T k).1 (T k).2.1 (T k).2.2.1).before args s = true ∨ (Cond.laysFinal C (T k).1 (T k).2.1 (T k).2.2.1).before args s = true := by
    have h9 := CL_in c _ hc (u_lay C T k) (u_in_lay hk)
    have h8 := tb_use hW.1 h9.1 h9.2 (A := args)
    unfold u_lay at h8
    split at h8
    · exact Or.inr h8
    · exact Or.inl h8
  have hst := (u_facts hfc hkC hlay hi).1
  have hcv : cell.slots[f.slot]? = some v := by rw [hsl, q4 k hk]; exact congrArg some hv
  rcases hw with hw | ⟨host, hw⟩
  · exact W.getf hx hb hown (tb_use hW.1 hw rfl) hi hst q1 (by rw [q3]; exact fun h => by cases h) hcv rfl rfl hd w
  · exact va_Wgetf hx hb hown (tb_use hW.1 hw rfl) hi hst q1 (by rw [q3]; exact fun h => by cases h) hcv rfl rfl hd w
theorem g_geti {i c k : Nat} {C : String} {T : u_T} {N : Nat} {ob : Nat} {f : Int32 → Option (α × aH)} (hc : CL[c]? = some (C, T, N)) (hk : k < N) (hw : fLk M.1 i (T k)) (hv : ∀ z h o, fval z h o k (ct c k) = .int (h_iv h o k)) (hd : decode M.2.1 pc = .ok (.getfield i, 3))
    (kk : ∀ v, GG em l E M d lr n0 m0 (pc + 3) lv (.int v :: st) h (f v)) : GG em l E M d lr n0 m0 pc lv (.ref (e_z E + ob) :: st) h (bO (gi h c ob k) f) := by
  by_cases hs : h_sh h ob = 10 + c
  · rw [gi, if_pos hs]; exact g_get hc hk hw hd hs (hv _ _ _) (kk _)
  · rw [gi, if_neg hs]; exact g_none
theorem g_getl {i c k : Nat} {C : String} {T : u_T} {N : Nat} {ob : Nat} {f : Int64 → Option (α × aH)} (hc : CL[c]? = some (C, T, N)) (hk : k < N) (hw : fLk M.1 i (T k)) (hv : ∀ z h o, fval z h o k (ct c k) = .long (h_lv h o k)) (hd : decode M.2.1 pc = .ok (.getfield i, 3))
    (kk : ∀ v, GG em l E M d lr n0 m0 (pc + 3) lv (.long v :: st) h (f v)) : GG em l E M d lr n0 m0 pc lv (.ref (e_z E + ob) :: st) h (bO (gL h c ob k) f) := by
  by_cases hs : h_sh h ob = 10 + c
  · rw [gL, if_pos hs]; exact g_get hc hk hw hd hs (hv _ _ _) (kk _)
  · rw [gL, if_neg hs]; exact g_none
theorem g_getr {i c k : Nat} {C : String} {T : u_T} {N : Nat} {ob : Nat} {f : Nat → Option (α × aH)} (hc : CL[c]? = some (C, T, N)) (hk : k < N) (hw : fLk M.1 i (T k)) (hv : ∀ z h o, fval z h o k (ct c k) = rfv z (h_rv h o k)) (hd : decode M.2.1 pc = .ok (.getfield i, 3))
    (kk : ∀ v, GG em l E M d lr n0 m0 (pc + 3) lv (.ref (e_z E + v) :: st) h (f v)) : GG em l E M d lr n0 m0 pc lv (.ref (e_z E + ob) :: st) h (bO (gr h c ob k) f) := by
  by_cases hs : h_sh h ob = 10 + c ∧ h_rv h ob k ≠ 0
  · rw [gr, if_pos hs]; exact g_get hc hk hw hd hs.1 ((hv _ _ _).trans (by rw [rfv, if_neg hs.2])) (kk _)
  · rw [gr, if_neg hs]; exact g_none
end GGS3
