section GGS4
variable {α β γ σ κ : Type} {em : α → aR} {l : Launch} {E : aE} {M : aM} {d lr n0 m0 pc tgt : Nat} {lv lv' : List (Nat × Value)} {st st' : List Value} {h h1 : aH} {o o1 o2 : Option (α × aH)}
/-- an instruction that writes one cell of ours -/
theorem g_write {pc' : Nat} {ob : Nat} (hsl : h_sl h1 = h_sl h) (hn : h_nx h1 = h_nx h) (hsh : h_sh h1 = h_sh h) (hln : h_ln h1 = h_ln h)
    (hi : ∀ k, k ≠ ob → h_iv h1 k = h_iv h k) (hl : ∀ k, k ≠ ob → h_lv h1 k = h_lv h k) (hr : ∀ k, k ≠ ob → h_rv h1 k = h_rv h k) (hs : h_sh h ob ≠ 0)
    (k : GG em l E M d lr n0 m0 pc' lv st' h1 o)
    (f : ∀ (p : Program) (e : Env) (R : Room) (s : State) (m : MethodId) (args : Array Value) (below : List Frame) (meth : Method) (c : Code) (H : Heap) (locs : List Loc) (cells slots : Nat) (ls : Array Slot) (Q : State → Prop),
      CX l E M n0 p s m meth c → d ≤ R.frames → lr ≤ R.locals → HR (e_z E) (e_D E) (e_cA E) h H → lv_has ls M.2.2.1 lv →
      (∀ (H1 : Heap) (ks : List Nat), aC (e_z E) (e_D E) (e_cA E) h1 ob H1 → H1.size = H.size → (∀ q, q ≠ e_z E + ob → H1[q]? = H[q]?) → W p l e R s m args below meth c H1 (locs ++ ks.map (fun j => ⟨e_z E + ob, j⟩)) cells slots Q (F0 m pc' ls st')) → W p l e R s m args below meth c H locs cells slots Q (F0 m pc ls st)) :
    GG em l E M d lr n0 m0 pc lv st h o := by
  intro r h' ho
  obtain ⟨a1, a2, a3⟩ := k r h' ho
  refine ⟨by omega, by omega, fun p e R s m args below meth c H locs cells slots ls Q hC hd hr9 hc hs9 e1 e2 hH hS hl9 hQ => ?_⟩
  refine f p e R s m args below meth c H locs cells slots ls Q hC hd hr9 hH hl9 (fun H1 ks g1 g2 g3 => ?_)
  have hob := hH.lt hs
  refine a3 p e R s m args below meth c H1 _ cells slots ls Q hC hd hr9 hc hs9 (by omega) (by omega) (hH.wr hn hsh hln hi hl hr g2 g3 g1) ?_ hl9 hQ
  have hA : aA (e_z E) (e_z E + ob) := by show _ < _; omega
  refine ⟨by rw [g2]; exact hS.1, fun q q1 q2 => ?_, fun q hq => ?_⟩
  · rw [g3 q (fun z => q2 (by rw [z]; exact hA))]; exact hS.2.1 q q1 q2
  · rcases List.mem_append.mp hq with h9 | h9
    · exact hS.2.2 q h9
    · obtain ⟨j, -, hj⟩ := List.mem_map.mp h9
      rw [← hj]; exact hA
theorem fval_si {z : Nat} {h : aH} {ob k j : Nat} {x : Int32} {ty : FieldType} (hk : j ≠ k) : fval z (h_si h ob k x) ob j ty = fval z h ob j ty := by
  cases ty <;> first | rfl | (show Value.int (up2 _ _ _ _ _ _) = _; rw [up2, if_neg (fun q => hk q.2)]; rfl)
theorem fval_sL {z : Nat} {h : aH} {ob k j : Nat} {x : Int64} {ty : FieldType} (hk : j ≠ k) : fval z (h_sL h ob k x) ob j ty = fval z h ob j ty := by
  cases ty <;> first | rfl | (show Value.long (up2 _ _ _ _ _ _) = _; rw [up2, if_neg (fun q => hk q.2)]; rfl)
theorem fval_sr {z : Nat} {h : aH} {ob k j : Nat} {x : Nat} {ty : FieldType} (hk : j ≠ k) : fval z (h_sr h ob k x) ob j ty = fval z h ob j ty := by
  cases ty <;> first | rfl | (show rfv _ (up2 _ _ _ _ _ _) = _; rw [up2, if_neg (fun q => hk q.2)]; rfl)
/-- a field is written; a final one in a constructor of its class -/
theorem g_put {i c k : Nat} {C : String} {T : u_T} {N : Nat} {ty : FieldType} {v : Value} {ob : Nat} (hc : CL[c]? = some (C, T, N)) (hk : k < N) (hw : fLk M.1 i (T k)) (hnm : ∀ a, a < N → ∀ b, b < N → a ≠ b → (T a).2.1 ≠ (T b).2.1) (hty : ∀ j, j < N → parseFieldDescriptor (T j).2.2.1 = some (ct c j))
    (hfin : (T k).2.2.2 = false ∨ ((T k).1 = M.1 ∧ ∃ (l9 : Launch) (y9 : MethodName), y9.name = "<init>" ∧ ∀ (m : MethodId) (s : State) (meth : Method), True)) (hf0 : (T k).2.2.2 = false)
    (hd : decode M.2.1 pc = .ok (.putfield i, 3)) (hs : h_sh h ob = 10 + c) (hn : narrow (ct c k) v = v) (hfit : fits (ct c k) v = true)
    (q1 : h_sl h1 = h_sl h) (q2 : h_nx h1 = h_nx h) (q3 : h_sh h1 = h_sh h) (q4 : h_ln h1 = h_ln h) (q5 : ∀ k, k ≠ ob → h_iv h1 k = h_iv h k) (q6 : ∀ k, k ≠ ob → h_lv h1 k = h_lv h k) (q7 : ∀ k, k ≠ ob → h_rv h1 k = h_rv h k)
    (q8 : fval (e_z E) h1 ob k (ct c k) = v) (q9 : ∀ j, j ≠ k → fval (e_z E) h1 ob j (ct c j) = fval (e_z E) h ob j (ct c j))
    (kk : GG em l E M d lr n0 m0 (pc + 3) lv st h1 o) : GG em l E M d lr n0 m0 pc lv (v :: .ref (e_z E + ob) :: st) h o := by
  sorry
end GGS4
