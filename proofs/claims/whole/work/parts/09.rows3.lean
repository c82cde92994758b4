theorem CL_ty : ∀ (c : Nat) (r : vw_C), CL[c]? = some r → (∀ k, k < r.2.2 → parseFieldDescriptor (r.2.1 k).2.2.1 = some (ct c k)) ∧ ∀ a, a < r.2.2 → ∀ b, b < r.2.2 → a ≠ b → (r.2.1 a).2.1 ≠ (r.2.1 b).2.1 := by
  intro c r hc
  match c, hc with
  | 0, h => cases h; exact ⟨tyX0_ok, nmX0⟩
  | 1, h => cases h; exact ⟨tyX1_ok, nmX1⟩
  | 2, h => cases h; exact ⟨tyX2_ok, nmX2⟩
  | 3, h => cases h; exact ⟨tyX3_ok, nmX3⟩
  | 4, h => cases h; exact ⟨tyX4_ok, nmX4⟩
  | 5, h => cases h; exact ⟨tyX5_ok, nmX5⟩
  | 6, h => cases h; exact ⟨tyX6_ok, nmX6⟩
  | 7, h => cases h; exact ⟨tyX7_ok, nmX7⟩
  | 8, h => cases h; exact ⟨tyX8_ok, nmX8⟩
  | 9, h => cases h; exact ⟨tyX9_ok, nmX9⟩
  | 10, h => cases h; exact ⟨tyX10_ok, nmX10⟩
  | 11, h => cases h; exact ⟨tyX11_ok, nmX11⟩
  | 12, h => cases h; exact ⟨tyX12_ok, nmX12⟩
  | n + 13, h => exact absurd (List.getElem?_eq_some_iff.mp h).1 (by show ¬ (n + 13 < 13); omega)
def okT : FieldType → Bool
  | .float => false
  | .double => false
  | _ => true
theorem CL_ok : ∀ (c : Nat) (r : vw_C), CL[c]? = some r → ∀ k, k < r.2.2 → okT (ct c k) = true := by
  intro c r hc
  match c, hc with
  | 0, h => cases h; decide +kernel
  | 1, h => cases h; decide +kernel
  | 2, h => cases h; decide +kernel
  | 3, h => cases h; decide +kernel
  | 4, h => cases h; decide +kernel
  | 5, h => cases h; decide +kernel
  | 6, h => cases h; decide +kernel
  | 7, h => cases h; decide +kernel
  | 8, h => cases h; decide +kernel
  | 9, h => cases h; decide +kernel
  | 10, h => cases h; decide +kernel
  | 11, h => cases h; decide +kernel
  | 12, h => cases h; decide +kernel
  | n + 13, h => exact absurd (List.getElem?_eq_some_iff.mp h).1 (by show ¬ (n + 13 < 13); omega)
theorem CL_ap {D : va_G} {cA : Nat → ClassId} {s : State} (hT : tb_at s) (hK : va_K D CL (TYS cA) s) {c : Nat} {C : String} {T : u_T} {N : Nat} (hc : CL[c]? = some (C, T, N)) : ∀ x y, x < N → y < N → x ≠ y → (D.2 c) x ≠ (D.2 c) y :=
  va_apart (own := "") (args := #[]) (Ts := u_ws C T N) (fun w hw => tb_use hT (CL_in c _ hc w hw).1 (CL_in c _ hc w hw).2) (fun _ hw => hw) (ct c) (CL_ty c _ hc).1 (CL_ty c _ hc).2 hK hc
theorem CL_lay {s : State} {args : Array Value} (hT : tb_at s) {c : Nat} {C : String} {T : u_T} {N k : Nat} (hc : CL[c]? = some (C, T, N)) (hk : k < N) : (u_lay C T k).before args s = true :=
  tb_use hT (CL_in c _ hc _ (u_in_lay hk)).1 (CL_in c _ hc _ (u_in_lay hk)).2
theorem aC_put {z : Nat} {D : va_G} {cA : Nat → ClassId} {h h1 : aH} {H H1 : Heap} {ob c k : Nat} {C : String} {T : u_T} {N : Nat} {v : Value} {cell : Cell} (hc : CL[c]? = some (C, T, N)) (hk : k < N) (ho : aC z D cA h ob H) (hs : h_sh h ob = 10 + c)
    (q2 : h_nx h1 = h_nx h) (q3 : h_sh h1 = h_sh h) (k2 : cell.cls = D.1 c) (k3 : cell.vm = .none) (k4 : ∀ j, j < N → cell.slots[D.2 c j]? = some (fval z h ob j (ct c j))) (hap : ∀ x y, x < N → y < N → x ≠ y → (D.2 c) x ≠ (D.2 c) y)
    (e1 : H1[z + ob]? = some (cell.setSlot (D.2 c k) v)) (q8 : fval z h1 ob k (ct c k) = v) (q9 : ∀ j, j ≠ k → fval z h1 ob j (ct c j) = fval z h ob j (ct c j)) : aC z D cA h1 ob H1 := by
  refine ⟨by rw [q3, q2]; exact ho.1, ?_, ?_, ?_, ?_⟩
  · intro t ht hs'; rw [q3] at hs'; omega
  · intro hs'; rw [q3] at hs'; omega
  · intro t h4 h9 hs'; rw [q3] at hs'; omega
  · intro c' hs'
    rw [q3] at hs'
    have hcc : c' = c := by omega
    subst hcc
    refine ⟨_, hc, t_OB.to (V := updV (fun f => fval z h ob f (ct c' f)) k v) ⟨_, e1, k2, k3, t_set (V := fun f => fval z h ob f (ct c' f)) k4 (fun a b ha hb => hap a b ha hb) hk v⟩ (fun j _ => ?_)⟩
    by_cases hjk : j = k
    · subst hjk; simp [updV, q8]
    · simp [updV, hjk, q9 j hjk]
section GGS4
variable {α β γ σ κ : Type} {em : α → aR} {l : Launch} {E : aE} {M : aM} {d lr n0 m0 pc tgt : Nat} {lv lv' : List (Nat × Value)} {st st' : List Value} {h h1 : aH} {o o1 o2 : Option (α × aH)}
/-- an instruction that writes one cell of ours -/
theorem g_write {pc' : Nat} {ob : Nat} (hsl : h_sl h1 = h_sl h) (hn : h_nx h1 = h_nx h) (hsh : h_sh h1 = h_sh h) (hln : h_ln h1 = h_ln h)
    (hi : ∀ k, k ≠ ob → h_iv h1 k = h_iv h k) (hl : ∀ k, k ≠ ob → h_lv h1 k = h_lv h k) (hr : ∀ k, k ≠ ob → h_rv h1 k = h_rv h k) (hs : h_sh h ob ≠ 0)
    (k : GG em l E M d lr n0 m0 pc' lv st' h1 o)
    (f : ∀ (p : Program) (e : Env) (R : Room) (s : State) (m : MethodId) (args : Array Value) (below : List Frame) (meth : Method) (c : Code) (H : Heap) (locs : List Loc) (cells slots : Nat) (ls : Array Slot) (Q : State → Prop),
      CX l E M n0 p s m meth c → d ≤ R.frames → lr ≤ R.locals → HR (e_z E) (e_D E) (e_cA E) h H → lv_has ls M.2.2.1 lv →
      (∀ (H1 : Heap) (j : Nat), aC (e_z E) (e_D E) (e_cA E) h1 ob H1 → H1.size = H.size → (∀ q, q ≠ e_z E + ob → H1[q]? = H[q]?) → W p l e R s m args below meth c H1 (locs ++ [⟨e_z E + ob, j⟩]) cells slots Q (F0 m pc' ls st')) → W p l e R s m args below meth c H locs cells slots Q (F0 m pc ls st)) :
    GG em l E M d lr n0 m0 pc lv st h o := by
  intro r h' ho
  obtain ⟨a1, a2, a3⟩ := k r h' ho
  refine ⟨by omega, by omega, fun p e R s m args below meth c H locs cells slots ls Q hC hd hr9 hc hs9 e1 e2 hH hS hl9 hQ => ?_⟩
  refine f p e R s m args below meth c H locs cells slots ls Q hC hd hr9 hH hl9 (fun H1 j g1 g2 g3 => ?_)
  have hob := hH.lt hs
  refine a3 p e R s m args below meth c H1 _ cells slots ls Q hC hd hr9 hc hs9 (by omega) (by omega) (hH.wr hn hsh hln hi hl hr g2 g3 g1) ?_ hl9 hQ
  have hA : aA (e_z E) (e_z E + ob) := by show _ < _; omega
  refine ⟨by rw [g2]; exact hS.1, fun q q1 q2 => ?_, fun q hq => ?_⟩
  · rw [g3 q (fun z => q2 (by rw [z]; exact hA))]; exact hS.2.1 q q1 q2
  · rcases List.mem_append.mp hq with h9 | h9
    · exact hS.2.2 q h9
    · rw [List.mem_singleton.mp h9]; exact hA
theorem fval_si {z : Nat} {h : aH} {ob k j : Nat} {x : Int32} {ty : FieldType} (hk : j ≠ k) : fval z (h_si h ob k x) ob j ty = fval z h ob j ty := by
  cases ty <;> first | rfl | (show Value.int (up2 _ _ _ _ _ _) = _; rw [up2, if_neg (fun q => hk q.2)]; rfl)
theorem fval_sL {z : Nat} {h : aH} {ob k j : Nat} {x : Int64} {ty : FieldType} (hk : j ≠ k) : fval z (h_sL h ob k x) ob j ty = fval z h ob j ty := by
  cases ty <;> first | rfl | (show Value.long (up2 _ _ _ _ _ _) = _; rw [up2, if_neg (fun q => hk q.2)]; rfl)
theorem fval_sr {z : Nat} {h : aH} {ob k j : Nat} {x : Nat} {ty : FieldType} (hk : j ≠ k) : fval z (h_sr h ob k x) ob j ty = fval z h ob j ty := by
  cases ty <;> first | rfl | (show rfv _ (up2 _ _ _ _ _ _) = _; rw [up2, if_neg (fun q => hk q.2)]; rfl)
theorem up2_o {α : Type} {f : Nat → Nat → α} {o k a : Nat} {x : α} (h : a ≠ o) : up2 f o k x a = f a := by
  funext j; rw [up2, if_neg (fun q => h q.1)]
theorem up1_o {α : Type} {f : Nat → α} {o a : Nat} {x : α} (h : a ≠ o) : up1 f o x a = f a := by rw [up1, if_neg h]
theorem up1_s {α : Type} {f : Nat → α} {o : Nat} {x : α} : up1 f o x o = x := by rw [up1, if_pos rfl]
theorem up2_s {α : Type} {f : Nat → Nat → α} {o k : Nat} {x : α} : up2 f o k x o k = x := by rw [up2, if_pos ⟨rfl, rfl⟩]
/-- a field is written; a final one in a constructor of its class -/
def fin_ok (M : aM) (i : Nat) (q : String × String × String × Bool) : Prop := (q.2.2.2 = false ∧ fLk M.1 i q) ∨ (q.2.2.2 = true ∧ q.1 = M.1 ∧ M.2.2.2.2.2 = true ∧ Cond.fieldLink M.1 i q.1 q.2.1 q.2.2.1 ∈ lw_tbl)
theorem g_put {i c k : Nat} {C : String} {T : u_T} {N : Nat} {v : Value} {ob : Nat} (hc : CL[c]? = some (C, T, N)) (hk : k < N) (hw : fin_ok M i (T k))
    (hd : decode M.2.1 pc = .ok (.putfield i, 3)) (hs : h_sh h ob = 10 + c) (hn : narrow (ct c k) v = v ∧ fits (ct c k) v = true)
    (q1 : h_sl h1 = h_sl h) (q2 : h_nx h1 = h_nx h) (q3 : h_sh h1 = h_sh h) (q4 : h_ln h1 = h_ln h) (q5 : ∀ k, k ≠ ob → h_iv h1 k = h_iv h k) (q6 : ∀ k, k ≠ ob → h_lv h1 k = h_lv h k) (q7 : ∀ k, k ≠ ob → h_rv h1 k = h_rv h k)
    (q8 : fval (e_z E) h1 ob k (ct c k) = v) (q9 : ∀ j, j ≠ k → fval (e_z E) h1 ob j (ct c j) = fval (e_z E) h ob j (ct c j))
    (kk : GG em l E M d lr n0 m0 (pc + 3) lv st h1 o) : GG em l E M d lr n0 m0 pc lv (v :: .ref (e_z E + ob) :: st) h o := by
  refine g_write (ob := ob) q1 q2 q3 q4 q5 q6 q7 (by omega) kk (fun p e R s m args below meth c9 H locs cells slots ls Q hC _ _ hH _ w => ?_)
  have hb0 := hH.2.2 ob
  obtain ⟨r, r1, cell, k1, k2, k3, k4⟩ := hb0.2.2.2.2 c hs
  cases Option.some.inj (r1.symm.trans hc)
  have hT := hC.2.2.2.2.2.2.1.1
  have hK := hC.2.2.2.2.2.2.1.2.1
  have hown := hC.2.2.2.2.2.1
  have hap := CL_ap hT hK hc
  obtain ⟨hS, hfc, kC, hkC, hkind⟩ := hK.1 c _ hc
  obtain ⟨cf, kf, fi, f, hi, hsl⟩ := hS k hk
  have hlay := CL_lay (args := args) hT hc hk
  have hty := (CL_ty c _ hc).1 k hk
  unfold u_lay at hlay
  rcases hw with ⟨hfin, hw⟩ | ⟨hfin, hdecl, hinit, hw⟩
  · rw [if_neg (by show ¬ (T k).2.2.2 = true; rw [hfin]; decide)] at hlay
    have hst := (u_facts hfc hkC (Or.inl hlay) hi).1
    have h6 := u_store hfc hkC hkind hlay hi hty hn.1 hn.2
    rcases hw with hw | ⟨host, hw⟩
    · refine W.putK hC.1 hC.2.1 (f := f) ⟨hown, tb_use hT hw rfl, ⟨_, _, _, hi⟩, hst⟩ (by rw [k2]; exact h6) k1 k3 (by rw [hsl]; exact k2_hasslot (k4 k hk)) rfl rfl hd fun H' e1 e2 e3 => ?_
      rw [hsl] at e1
      exact w H' _ (aC_put hc hk hb0 hs q2 q3 k2 k3 k4 hap e1 q8 q9) e2 e3
    · refine va_WputK hC.1 hC.2.1 (f := f) hown (tb_use hT hw rfl) hi hst (by rw [k2]; exact h6) k1 k3 (by rw [hsl]; exact k2_hasslot (k4 k hk)) rfl rfl hd fun H' e1 e2 e3 => ?_
      rw [hsl] at e1
      exact w H' _ (aC_put hc hk hb0 hs q2 q3 k2 k3 k4 hap e1 q8 q9) e2 e3
  · rw [if_pos (by show (T k).2.2.2 = true; exact hfin)] at hlay
    have hst := (u_facts hfc hkC (Or.inr hlay) hi).1
    have hcf : m.cls = cf := by
      obtain ⟨_, _, c', _, _, _, -, -, hf', -, -, -, hown2, -⟩ := Cond.laysFinal_spec hlay
      have e1 : c' = cf := by have := hi.symm.trans hf'; simp at this; exact this.1.symm
      rw [hdecl] at hown2
      rw [← e1]; exact Option.some.inj (hown.symm.trans hown2)
    have h6 := u_fits hfc hkC hkind (Or.inr hlay) hi hty hn.1 hn.2
    refine W.putFinK hC.1 hC.2.1 hown (tb_use hT hw rfl) hi hst hcf (hC.2.2.2.2.2.2.2.2.2.2.2 hinit) (by rw [k2]; exact h6) k1 k3 (by rw [hsl]; exact k2_hasslot (k4 k hk)) rfl rfl hd fun H' e1 e2 e3 => ?_
    rw [hsl] at e1
    exact w H' _ (aC_put hc hk hb0 hs q2 q3 k2 k3 k4 hap e1 q8 q9) e2 e3
theorem g_puti {i c k : Nat} {C : String} {T : u_T} {N : Nat} {ob : Nat} {x : Int32} {f : aH → Option (α × aH)} (hc : CL[c]? = some (C, T, N)) (hk : k < N) (hw : fin_ok M i (T k)) (hv : ∀ z h o, fval z h o k (ct c k) = .int (h_iv h o k)) (hn : ∀ x, narrow (ct c k) (.int x) = .int x ∧ fits (ct c k) (.int x) = true)
    (hd : decode M.2.1 pc = .ok (.putfield i, 3)) (kk : ∀ h1, GG em l E M d lr n0 m0 (pc + 3) lv st h1 (f h1)) : GG em l E M d lr n0 m0 pc lv (.int x :: .ref (e_z E + ob) :: st) h (bO (pi h c ob k x) f) := by
  by_cases hs : h_sh h ob = 10 + c
  · rw [pi, if_pos hs]
    exact g_put (h1 := h_si h ob k x) hc hk hw hd hs (hn x) rfl rfl rfl rfl (fun _ q => up2_o q) (fun _ _ => rfl) (fun _ _ => rfl) ((hv _ _ _).trans (congrArg Value.int up2_s)) (fun _ q => fval_si q) (kk _)
  · rw [pi, if_neg hs]; exact g_none
theorem g_putz {i c k : Nat} {C : String} {T : u_T} {N : Nat} {ob : Nat} {x : Int32} {f : aH → Option (α × aH)} (hc : CL[c]? = some (C, T, N)) (hk : k < N) (hw : fin_ok M i (T k)) (hv : ∀ z h o, fval z h o k (ct c k) = .int (h_iv h o k)) (hn : (narrow (ct c k) (.int 0) = .int 0 ∧ fits (ct c k) (.int 0) = true) ∧ narrow (ct c k) (.int 1) = .int 1 ∧ fits (ct c k) (.int 1) = true)
    (hd : decode M.2.1 pc = .ok (.putfield i, 3)) (kk : ∀ h1, GG em l E M d lr n0 m0 (pc + 3) lv st h1 (f h1)) : GG em l E M d lr n0 m0 pc lv (.int x :: .ref (e_z E + ob) :: st) h (bO (pz h c ob k x) f) := by
  by_cases hs : h_sh h ob = 10 + c ∧ (x = 0 ∨ x = 1)
  · rw [pz, if_pos hs]
    exact g_put (h1 := h_si h ob k x) hc hk hw hd hs.1 (by rcases hs.2 with rfl | rfl; exact hn.1; exact hn.2) rfl rfl rfl rfl (fun _ q => up2_o q) (fun _ _ => rfl) (fun _ _ => rfl) ((hv _ _ _).trans (congrArg Value.int up2_s)) (fun _ q => fval_si q) (kk _)
  · rw [pz, if_neg hs]; exact g_none
theorem g_putl {i c k : Nat} {C : String} {T : u_T} {N : Nat} {ob : Nat} {x : Int64} {f : aH → Option (α × aH)} (hc : CL[c]? = some (C, T, N)) (hk : k < N) (hw : fin_ok M i (T k)) (hv : ∀ z h o, fval z h o k (ct c k) = .long (h_lv h o k)) (hn : ∀ x, narrow (ct c k) (.long x) = .long x ∧ fits (ct c k) (.long x) = true)
    (hd : decode M.2.1 pc = .ok (.putfield i, 3)) (kk : ∀ h1, GG em l E M d lr n0 m0 (pc + 3) lv st h1 (f h1)) : GG em l E M d lr n0 m0 pc lv (.long x :: .ref (e_z E + ob) :: st) h (bO (pL h c ob k x) f) := by
  by_cases hs : h_sh h ob = 10 + c
  · rw [pL, if_pos hs]
    exact g_put (h1 := h_sL h ob k x) hc hk hw hd hs (hn x) rfl rfl rfl rfl (fun _ _ => rfl) (fun _ q => up2_o q) (fun _ _ => rfl) ((hv _ _ _).trans (congrArg Value.long up2_s)) (fun _ q => fval_sL q) (kk _)
  · rw [pL, if_neg hs]; exact g_none
theorem g_putr {i c k : Nat} {C : String} {T : u_T} {N : Nat} {ob x : Nat} {f : aH → Option (α × aH)} (hc : CL[c]? = some (C, T, N)) (hk : k < N) (hw : fin_ok M i (T k)) (hv : ∀ z h o, fval z h o k (ct c k) = rfv z (h_rv h o k)) (hn : ∀ x, narrow (ct c k) (.ref x) = .ref x ∧ fits (ct c k) (.ref x) = true)
    (hd : decode M.2.1 pc = .ok (.putfield i, 3)) (kk : ∀ h1, GG em l E M d lr n0 m0 (pc + 3) lv st h1 (f h1)) : GG em l E M d lr n0 m0 pc lv (.ref (e_z E + x) :: .ref (e_z E + ob) :: st) h (bO (pr h c ob k x) f) := by
  by_cases hs : h_sh h ob = 10 + c ∧ x ≠ 0
  · rw [pr, if_pos hs]
    exact g_put (h1 := h_sr h ob k x) hc hk hw hd hs.1 (hn _) rfl rfl rfl rfl (fun _ _ => rfl) (fun _ _ => rfl) (fun _ q => up2_o q) ((hv _ _ _).trans ((congrArg (rfv _) up2_s).trans (if_neg hs.2))) (fun _ q => fval_sr q) (kk _)
  · rw [pr, if_neg hs]; exact g_none
end GGS4
