/-! the tables' words, as one fact that stays under warming -/
def tb_ok : Cond → Bool
  | .fieldLinkNest .. => true
  | .methodLinkNest .. => true
  | .castable .. => true
  | .declares .. => true
  | w => goodWord w
def tb_at (U : State) : Prop := ∀ w ∈ lw_tbl, tb_ok w = true → w.before #[] U = true
theorem tb_move {w : Cond} (hw : tb_ok w = true) {s U : State} (hW : s.WarmedH U.vm) {A A' : Array Value} (h : w.before A s = true) : w.before A' U = true := by
  by_cases hg : goodWord w = true
  · exact word_at hW (good_of_word hg) h
  · cases w <;> first
      | exact absurd hw hg
      | exact va_Nw.use (A := A') rfl (va_Nw.warmF hW (va_Nw.of rfl h))
      | exact va_Nw.use (A := A') rfl (va_Nw.warmM hW (va_Nw.of rfl h))
      | exact va_Nw.use (A := A') rfl (va_Nw.warmC hW (va_Nw.of rfl h))
      | exact va_Nw.use (A := A') rfl (va_Nw.warmD hW (va_Nw.of rfl h))
theorem tb_warm {s U : State} (hW : s.WarmedH U.vm) (h : tb_at s) : tb_at U := fun w hm hk => tb_move hk hW (h w hm hk)
theorem tb_use {U : State} (h : tb_at U) {w : Cond} (hm : w ∈ lw_tbl) (hk : tb_ok w = true) {A : Array Value} : w.before A U = true := tb_move hk (State.WarmedH.refl U) (h w hm hk)
theorem tb_mem {i : Nat} {w : Cond} (h : tables_1[i]? = some w) : w ∈ lw_tbl := List.mem_append_right _ (List.mem_of_getElem? h)
/-! the classes of the worlds, and the types of their fields -/
def CL : List vw_C := [(RX0, TX0, 8), (RX1, TX1, 5), (RX2, TX2, 4), (RX3, TX3, 8), (RX4, TX4, 11), (RX5, TX5, 4), (RX6, TX6, 5), (RX7, TX7, 3), (RX8, TX8, 12), (RX9, TX9, 11), (RX10, TX10, 16), (RX11, TX11, 9), (RX12, TX12, 71)]
def CT : List (Nat → FieldType) := [tyX0, tyX1, tyX2, tyX3, tyX4, tyX5, tyX6, tyX7, tyX8, tyX9, tyX10, tyX11, tyX12]
def ct (c : Nat) : Nat → FieldType := CT.getD c (fun _ => .int)
/-- arrays: int, byte, boolean, long, then of objects -/
def TYL : List FieldType := [.int, .byte, .boolean, .long, .object "BrigadePagers$State", .object "BrigadePagers$Person", .object "BrigadePagers$Pager", .object "BrigadePagers$Engine", .object "BrigadePagers$Kind"]
def TYS (cA : Nat → ClassId) : List (ClassId × FieldType) := (List.range 9).map (fun t => (cA t, TYL.getD t .int))
/-! abstract heaps: how many cells were made, slots used, shapes (0: not held; 1..9: arrays by their place in TYL; 10 + c: objects), lengths, contents -/
abbrev aH : Type := Nat × Nat × (Nat → Nat) × (Nat → Nat) × (Nat → Nat → Int32) × (Nat → Nat → Int64) × (Nat → Nat → Nat)
def h_nx (h : aH) : Nat := h.1
def h_sl (h : aH) : Nat := h.2.1
def h_sh (h : aH) : Nat → Nat := h.2.2.1
def h_ln (h : aH) : Nat → Nat := h.2.2.2.1
def h_iv (h : aH) : Nat → Nat → Int32 := h.2.2.2.2.1
def h_lv (h : aH) : Nat → Nat → Int64 := h.2.2.2.2.2.1
def h_rv (h : aH) : Nat → Nat → Nat := h.2.2.2.2.2.2
def rfv (z k : Nat) : Value := if k = 0 then .null else .ref (z + k)
def fval (z : Nat) (h : aH) (o k : Nat) : FieldType → Value
  | .long => .long (h_lv h o k)
  | .object _ => rfv z (h_rv h o k)
  | .array _ => rfv z (h_rv h o k)
  | _ => .int (h_iv h o k)
def up1 {α : Type} (f : Nat → α) (o : Nat) (x : α) : Nat → α := fun a => if a = o then x else f a
def up2 {α : Type} (f : Nat → Nat → α) (o k : Nat) (x : α) : Nat → Nat → α := fun a j => if a = o ∧ j = k then x else f a j
def h_si (h : aH) (o k : Nat) (x : Int32) : aH := (h.1, h.2.1, h.2.2.1, h.2.2.2.1, up2 h.2.2.2.2.1 o k x, h.2.2.2.2.2.1, h.2.2.2.2.2.2)
def h_sL (h : aH) (o k : Nat) (x : Int64) : aH := (h.1, h.2.1, h.2.2.1, h.2.2.2.1, h.2.2.2.2.1, up2 h.2.2.2.2.2.1 o k x, h.2.2.2.2.2.2)
def h_sr (h : aH) (o k : Nat) (x : Nat) : aH := (h.1, h.2.1, h.2.2.1, h.2.2.2.1, h.2.2.2.2.1, h.2.2.2.2.2.1, up2 h.2.2.2.2.2.2 o k x)
/-- a new cell of shape t, of n slots -/
def h_new (h : aH) (t n : Nat) : aH := (h.1 + 1, h.2.1 + n, up1 h.2.2.1 h.1 t, up1 h.2.2.2.1 h.1 n, up1 h.2.2.2.2.1 h.1 (fun _ => 0), up1 h.2.2.2.2.2.1 h.1 (fun _ => 0), up1 h.2.2.2.2.2.2 h.1 (fun _ => 0))
def h_copy (h : aH) (o : Nat) (f : Nat → Int32) : aH := (h.1, h.2.1, h.2.2.1, h.2.2.2.1, up1 h.2.2.2.2.1 o f, h.2.2.2.2.2.1, h.2.2.2.2.2.2)
/-- a cell that is not held: an exception -/
def h_exc (h : aH) : aH := (h.1 + 1, h.2.1 + 6, h.2.2)
/-! what the real heap holds -/
def aC (z : Nat) (D : va_G) (cA : Nat → ClassId) (h : aH) (k : Nat) (H : Heap) : Prop :=
  (h_sh h k ≠ 0 → k ≠ 0 ∧ k < h_nx h) ∧
  (∀ t, t < 3 → h_sh h k = t + 1 → H[z + k]? = some (arrV (cA t) (h_ln h k) (fun j => .int (h_iv h k j)))) ∧
  (h_sh h k = 4 → H[z + k]? = some (arrV (cA 3) (h_ln h k) (fun j => .long (h_lv h k j)))) ∧
  (∀ t, 4 ≤ t → t < 9 → h_sh h k = t + 1 → H[z + k]? = some (arrV (cA t) (h_ln h k) (fun j => rfv z (h_rv h k j)))) ∧
  (∀ c, h_sh h k = 10 + c → ∃ r : vw_C, CL[c]? = some r ∧ t_OB (z + k) (D.1 c) r.2.2 (D.2 c) H (fun f => fval z h k f (ct c f)))
def HR (z : Nat) (D : va_G) (cA : Nat → ClassId) (h : aH) (H : Heap) : Prop := H.size = z + h_nx h ∧ 0 < h_nx h ∧ ∀ k, aC z D cA h k H
theorem HR.lt {z : Nat} {D : va_G} {cA : Nat → ClassId} {h : aH} {H : Heap} (hR : HR z D cA h H) {k : Nat} (hk : h_sh h k ≠ 0) : k ≠ 0 ∧ k < h_nx h := (hR.2.2 k).1 hk
/-- one cell was written, all others stay -/
theorem HR.wr {z : Nat} {D : va_G} {cA : Nat → ClassId} {h h' : aH} {H H1 : Heap} (hR : HR z D cA h H) {o : Nat} (hn : h_nx h' = h_nx h) (hsh : h_sh h' = h_sh h) (hln : h_ln h' = h_ln h)
    (hi : ∀ k, k ≠ o → h_iv h' k = h_iv h k) (hl : ∀ k, k ≠ o → h_lv h' k = h_lv h k) (hr : ∀ k, k ≠ o → h_rv h' k = h_rv h k)
    (hz : H1.size = H.size) (oq : ∀ q, q ≠ z + o → H1[q]? = H[q]?) (ho : aC z D cA h' o H1) : HR z D cA h' H1 := by
  refine ⟨by rw [hz, hn]; exact hR.1, by rw [hn]; exact hR.2.1, fun k => ?_⟩
  by_cases hk : k = o
  · subst hk; exact ho
  · have hq : H1[z + k]? = H[z + k]? := oq _ (by omega)
    obtain ⟨a1, a2, a3, a4, a5⟩ := hR.2.2 k
    refine ⟨?_, ?_, ?_, ?_, ?_⟩
    · rw [hsh, hn]; exact a1
    · intro t ht hs; rw [hsh] at hs; rw [hq, hln, hi k hk]; exact a2 t ht hs
    · intro hs; rw [hsh] at hs; rw [hq, hln, hl k hk]; exact a3 hs
    · intro t h4 h9 hs; rw [hsh] at hs; rw [hq, hln, hr k hk]; exact a4 t h4 h9 hs
    · intro c hs; rw [hsh] at hs
      obtain ⟨r, r1, r2⟩ := a5 c hs
      refine ⟨r, r1, (r2.kept hq).to (fun f _ => ?_)⟩
      cases hct : ct c f <;> simp [fval, hi k hk, hl k hk, hr k hk]
