/-! String.length(), charAt of the reader's words -/
theorem sw680 : Cond.methodLink "java/lang/String" (335 : Nat) ({ cls := "java/lang/String", name := "coder", desc := "()B" } : MethodName) ∈ lw_tbl := tq3 (i := 203) rfl
theorem sw681 : Cond.instanceMethod ({ cls := "java/lang/String", name := "coder", desc := "()B" } : MethodName) ∈ lw_tbl := tq3 (i := 204) rfl
theorem sw682 : Cond.selects "java/lang/String" ({ cls := "java/lang/String", name := "coder", desc := "()B" } : MethodName) ({ cls := "java/lang/String", name := "coder", desc := "()B" } : MethodName) ∈ lw_tbl := tq3 (i := 205) rfl
theorem sw683 : Cond.code ({ cls := "java/lang/String", name := "coder", desc := "()B" } : MethodName) prog_25_method_152_code (1 : Nat) (Option.some .byte) ∈ lw_tbl := tq3 (i := 206) rfl
theorem sw684 : Cond.fieldLink "java/lang/String" (38 : Nat) "java/lang/String" "COMPACT_STRINGS" "Z" ∈ lw_tbl := tq3 (i := 207) rfl
theorem sw690 : Cond.methodLink "java/lang/String" (492 : Nat) ({ cls := "java/lang/String", name := "isLatin1", desc := "()Z" } : MethodName) ∈ lw_tbl := tq3 (i := 213) rfl
theorem sw691 : Cond.instanceMethod ({ cls := "java/lang/String", name := "isLatin1", desc := "()Z" } : MethodName) ∈ lw_tbl := tq3 (i := 214) rfl
theorem sw692 : Cond.selects "java/lang/String" ({ cls := "java/lang/String", name := "isLatin1", desc := "()Z" } : MethodName) ({ cls := "java/lang/String", name := "isLatin1", desc := "()Z" } : MethodName) ∈ lw_tbl := tq3 (i := 215) rfl
theorem sw693 : Cond.code ({ cls := "java/lang/String", name := "isLatin1", desc := "()Z" } : MethodName) prog_25_method_154_code (1 : Nat) (Option.some .boolean) ∈ lw_tbl := tq3 (i := 216) rfl
theorem sw694 : Cond.methodLink "java/lang/String" (495 : Nat) ({ cls := "java/lang/StringLatin1", name := "charAt", desc := "([BI)C" } : MethodName) ∈ lw_tbl := tq3 (i := 217) rfl
theorem sw695 : Cond.static ({ cls := "java/lang/StringLatin1", name := "charAt", desc := "([BI)C" } : MethodName) ∈ lw_tbl := tq3 (i := 218) rfl
theorem sw696 : Cond.code ({ cls := "java/lang/StringLatin1", name := "charAt", desc := "([BI)C" } : MethodName) prog_26_method_2_code (2 : Nat) (Option.some .char) ∈ lw_tbl := tq3 (i := 219) rfl
theorem sw697 : Cond.methodLink "java/lang/StringLatin1" (9 : Nat) ({ cls := "java/lang/String", name := "checkIndex", desc := "(II)V" } : MethodName) ∈ lw_tbl := tq3 (i := 220) rfl
theorem sw698 : Cond.static ({ cls := "java/lang/String", name := "checkIndex", desc := "(II)V" } : MethodName) ∈ lw_tbl := tq3 (i := 221) rfl
theorem sw699 : Cond.code ({ cls := "java/lang/String", name := "checkIndex", desc := "(II)V" } : MethodName) prog_25_method_155_code (2 : Nat) (Option.none : Option ClassFile.FieldType) ∈ lw_tbl := tq3 (i := 222) rfl
theorem sw700 : Cond.fieldLink "java/lang/String" (1053 : Nat) "jdk/internal/util/Preconditions" "SIOOBE_FORMATTER" "Ljava/util/function/BiFunction;" ∈ lw_tbl := tq3 (i := 223) rfl
theorem sw702 : Cond.methodLink "java/lang/String" (1059 : Nat) ({ cls := "jdk/internal/util/Preconditions", name := "checkIndex", desc := "(IILjava/util/function/BiFunction;)I" } : MethodName) ∈ lw_tbl := tq3 (i := 225) rfl
theorem sw703 : Cond.static ({ cls := "jdk/internal/util/Preconditions", name := "checkIndex", desc := "(IILjava/util/function/BiFunction;)I" } : MethodName) ∈ lw_tbl := tq3 (i := 226) rfl
theorem sw704 : Cond.code ({ cls := "jdk/internal/util/Preconditions", name := "checkIndex", desc := "(IILjava/util/function/BiFunction;)I" } : MethodName) prog_34_method_11_code (3 : Nat) (Option.some .int) ∈ lw_tbl := tq3 (i := 227) rfl
theorem sw2282 : Cond.fieldLink "java/lang/String" (9 : Nat) "java/lang/String" "value" "[B" ∈ lw_tbl := tq10 (i := 125) rfl
theorem sw2283 : Cond.fieldLink "java/lang/String" (15 : Nat) "java/lang/String" "coder" "B" ∈ lw_tbl := tq10 (i := 126) rfl
theorem sw22 : Cond.initialized "java/lang/StringLatin1" ∈ lw_tbl := tq1 (i := 22) rfl
theorem sw23 : Cond.initialized "jdk/internal/util/Preconditions" ∈ lw_tbl := tq1 (i := 23) rfl
theorem dJ0_length_8abf5_0 : decode cJ0_length_8abf5 0 = .ok (.aload_n 0, 1) := by decide +kernel
theorem dJ0_length_8abf5_1 : decode cJ0_length_8abf5 1 = .ok (.getfield 9, 3) := by decide +kernel
theorem dJ0_length_8abf5_4 : decode cJ0_length_8abf5 4 = .ok (.arraylength, 1) := by decide +kernel
theorem dJ0_length_8abf5_5 : decode cJ0_length_8abf5 5 = .ok (.aload_n 0, 1) := by decide +kernel
theorem dJ0_length_8abf5_6 : decode cJ0_length_8abf5 6 = .ok (.invokevirtual 335, 3) := by decide +kernel
theorem dJ0_length_8abf5_9 : decode cJ0_length_8abf5 9 = .ok (.ishr, 1) := by decide +kernel
theorem dJ0_length_8abf5_10 : decode cJ0_length_8abf5 10 = .ok (.ireturn, 1) := by decide +kernel
theorem dJ0_charAt_5068e_0 : decode cJ0_charAt_5068e 0 = .ok (.aload_n 0, 1) := by decide +kernel
theorem dJ0_charAt_5068e_1 : decode cJ0_charAt_5068e 1 = .ok (.invokevirtual 492, 3) := by decide +kernel
theorem dJ0_charAt_5068e_4 : decode cJ0_charAt_5068e 4 = .ok (.ifCond .eq 12, 3) := by decide +kernel
theorem dJ0_charAt_5068e_7 : decode cJ0_charAt_5068e 7 = .ok (.aload_n 0, 1) := by decide +kernel
theorem dJ0_charAt_5068e_8 : decode cJ0_charAt_5068e 8 = .ok (.getfield 9, 3) := by decide +kernel
theorem dJ0_charAt_5068e_11 : decode cJ0_charAt_5068e 11 = .ok (.iload_n 1, 1) := by decide +kernel
theorem dJ0_charAt_5068e_12 : decode cJ0_charAt_5068e 12 = .ok (.invokestatic 495, 3) := by decide +kernel
theorem dJ0_charAt_5068e_15 : decode cJ0_charAt_5068e 15 = .ok (.ireturn, 1) := by decide +kernel
theorem dJ0_charAt_5068e_16 : decode cJ0_charAt_5068e 16 = .ok (.aload_n 0, 1) := by decide +kernel
theorem dJ0_charAt_5068e_17 : decode cJ0_charAt_5068e 17 = .ok (.getfield 9, 3) := by decide +kernel
theorem dJ0_charAt_5068e_20 : decode cJ0_charAt_5068e 20 = .ok (.iload_n 1, 1) := by decide +kernel
theorem dJ0_charAt_5068e_21 : decode cJ0_charAt_5068e 21 = .ok (.invokestatic 498, 3) := by decide +kernel
theorem dJ0_charAt_5068e_24 : decode cJ0_charAt_5068e 24 = .ok (.ireturn, 1) := by decide +kernel
theorem dJ0_coder_7d493_0 : decode cJ0_coder_7d493 0 = .ok (.getstatic 38, 3) := by decide +kernel
theorem dJ0_coder_7d493_3 : decode cJ0_coder_7d493 3 = .ok (.ifCond .eq 10, 3) := by decide +kernel
theorem dJ0_coder_7d493_6 : decode cJ0_coder_7d493 6 = .ok (.aload_n 0, 1) := by decide +kernel
theorem dJ0_coder_7d493_7 : decode cJ0_coder_7d493 7 = .ok (.getfield 15, 3) := by decide +kernel
theorem dJ0_coder_7d493_10 : decode cJ0_coder_7d493 10 = .ok (.goto 4, 3) := by decide +kernel
theorem dJ0_coder_7d493_13 : decode cJ0_coder_7d493 13 = .ok (.iconst 1, 1) := by decide +kernel
theorem dJ0_coder_7d493_14 : decode cJ0_coder_7d493 14 = .ok (.ireturn, 1) := by decide +kernel
theorem dJ0_isLatin1_aae02_0 : decode cJ0_isLatin1_aae02 0 = .ok (.getstatic 38, 3) := by decide +kernel
theorem dJ0_isLatin1_aae02_3 : decode cJ0_isLatin1_aae02 3 = .ok (.ifCond .eq 14, 3) := by decide +kernel
theorem dJ0_isLatin1_aae02_6 : decode cJ0_isLatin1_aae02 6 = .ok (.aload_n 0, 1) := by decide +kernel
theorem dJ0_isLatin1_aae02_7 : decode cJ0_isLatin1_aae02 7 = .ok (.getfield 15, 3) := by decide +kernel
theorem dJ0_isLatin1_aae02_10 : decode cJ0_isLatin1_aae02 10 = .ok (.ifCond .ne 7, 3) := by decide +kernel
theorem dJ0_isLatin1_aae02_13 : decode cJ0_isLatin1_aae02 13 = .ok (.iconst 1, 1) := by decide +kernel
theorem dJ0_isLatin1_aae02_14 : decode cJ0_isLatin1_aae02 14 = .ok (.goto 4, 3) := by decide +kernel
theorem dJ0_isLatin1_aae02_17 : decode cJ0_isLatin1_aae02 17 = .ok (.iconst 0, 1) := by decide +kernel
theorem dJ0_isLatin1_aae02_18 : decode cJ0_isLatin1_aae02 18 = .ok (.ireturn, 1) := by decide +kernel
theorem dJ0_checkIndex_df160_0 : decode cJ0_checkIndex_df160 0 = .ok (.iload_n 0, 1) := by decide +kernel
theorem dJ0_checkIndex_df160_1 : decode cJ0_checkIndex_df160 1 = .ok (.iload_n 1, 1) := by decide +kernel
theorem dJ0_checkIndex_df160_2 : decode cJ0_checkIndex_df160 2 = .ok (.getstatic 1053, 3) := by decide +kernel
theorem dJ0_checkIndex_df160_5 : decode cJ0_checkIndex_df160 5 = .ok (.invokestatic 1059, 3) := by decide +kernel
theorem dJ0_checkIndex_df160_8 : decode cJ0_checkIndex_df160 8 = .ok (.pop, 1) := by decide +kernel
theorem dJ0_checkIndex_df160_9 : decode cJ0_checkIndex_df160 9 = .ok (.return_, 1) := by decide +kernel
theorem dJ1_charAt_3b067_0 : decode cJ1_charAt_3b067 0 = .ok (.iload_n 1, 1) := by decide +kernel
theorem dJ1_charAt_3b067_1 : decode cJ1_charAt_3b067 1 = .ok (.aload_n 0, 1) := by decide +kernel
theorem dJ1_charAt_3b067_2 : decode cJ1_charAt_3b067 2 = .ok (.arraylength, 1) := by decide +kernel
theorem dJ1_charAt_3b067_3 : decode cJ1_charAt_3b067 3 = .ok (.invokestatic 9, 3) := by decide +kernel
theorem dJ1_charAt_3b067_6 : decode cJ1_charAt_3b067 6 = .ok (.aload_n 0, 1) := by decide +kernel
theorem dJ1_charAt_3b067_7 : decode cJ1_charAt_3b067 7 = .ok (.iload_n 1, 1) := by decide +kernel
theorem dJ1_charAt_3b067_8 : decode cJ1_charAt_3b067 8 = .ok (.baload, 1) := by decide +kernel
theorem dJ1_charAt_3b067_9 : decode cJ1_charAt_3b067 9 = .ok (.sipush 255, 3) := by decide +kernel
theorem dJ1_charAt_3b067_12 : decode cJ1_charAt_3b067 12 = .ok (.iand, 1) := by decide +kernel
theorem dJ1_charAt_3b067_13 : decode cJ1_charAt_3b067 13 = .ok (.i2c, 1) := by decide +kernel
theorem dJ1_charAt_3b067_14 : decode cJ1_charAt_3b067 14 = .ok (.ireturn, 1) := by decide +kernel
theorem dJ3_checkIndex_8e157_0 : decode cJ3_checkIndex_8e157 0 = .ok (.iload_n 0, 1) := by decide +kernel
theorem dJ3_checkIndex_8e157_1 : decode cJ3_checkIndex_8e157 1 = .ok (.ifCond .lt 8, 3) := by decide +kernel
theorem dJ3_checkIndex_8e157_4 : decode cJ3_checkIndex_8e157 4 = .ok (.iload_n 0, 1) := by decide +kernel
theorem dJ3_checkIndex_8e157_5 : decode cJ3_checkIndex_8e157 5 = .ok (.iload_n 1, 1) := by decide +kernel
theorem dJ3_checkIndex_8e157_6 : decode cJ3_checkIndex_8e157 6 = .ok (.if_icmp .lt 10, 3) := by decide +kernel
theorem dJ3_checkIndex_8e157_9 : decode cJ3_checkIndex_8e157 9 = .ok (.aload_n 2, 1) := by decide +kernel
theorem dJ3_checkIndex_8e157_10 : decode cJ3_checkIndex_8e157 10 = .ok (.iload_n 0, 1) := by decide +kernel
theorem dJ3_checkIndex_8e157_11 : decode cJ3_checkIndex_8e157 11 = .ok (.iload_n 1, 1) := by decide +kernel
theorem dJ3_checkIndex_8e157_12 : decode cJ3_checkIndex_8e157 12 = .ok (.invokestatic 95, 3) := by decide +kernel
theorem dJ3_checkIndex_8e157_15 : decode cJ3_checkIndex_8e157 15 = .ok (.athrow, 1) := by decide +kernel
theorem dJ3_checkIndex_8e157_16 : decode cJ3_checkIndex_8e157 16 = .ok (.iload_n 0, 1) := by decide +kernel
theorem dJ3_checkIndex_8e157_17 : decode cJ3_checkIndex_8e157 17 = .ok (.ireturn, 1) := by decide +kernel
section GGS9
variable {α β γ : Type} {em : α → aR} {l : Launch} {E : aE} {M : aM} {d lr n0 m0 pc : Nat} {lv lv' : List (Nat × Value)} {st stk : List Value} {h : aH} {o : Option (α × aH)}
theorem g_cmp {i : Nat} (hw : Cond.fieldLink M.1 i "java/lang/String" "COMPACT_STRINGS" "Z" ∈ lw_tbl) (hd : decode M.2.1 pc = .ok (.getstatic i, 3)) (k : GG em l E M d lr n0 m0 (pc + 3) lv (.int 1 :: st) h o) : GG em l E M d lr n0 m0 pc lv st h o := g_lift k (fun _ _ _ _ _ _ _ _ _ _ _ _ _ _ _ hC _ _ _ _ _ hS _ w => va_gets hC.1 hC.2.1 hC.2.2.2.2.2.2.1.2.2.2.2.1.1 hS hC.2.2.2.2.2.1 (tb_use hC.2.2.2.2.2.2.1.1 hw rfl) (fun _ h => h) hd w)
theorem g_fmt {i : Nat} (hw : Cond.fieldLink M.1 i "jdk/internal/util/Preconditions" "SIOOBE_FORMATTER" "Ljava/util/function/BiFunction;" ∈ lw_tbl) (hd : decode M.2.1 pc = .ok (.getstatic i, 3)) (k : ∀ v : Value, v = .null ∨ (∃ t : Nat, v = .ref t) → GG em l E M d lr n0 m0 (pc + 3) lv (v :: st) h o) : GG em l E M d lr n0 m0 pc lv st h o := by
  intro r h' ho
  obtain ⟨a1, a2, -⟩ := k .null (Or.inl rfl) r h' ho
  refine ⟨a1, a2, fun p e R s m args below meth c H locs cells slots ls Q hC hd9 hr hc hs h1 h2 hH hS hl hQ => ?_⟩
  rcases hC.2.2.2.2.2.2.1.2.2.2.2.1.2.1 with hZ | ⟨t, hZ⟩
  · exact va_gets hC.1 hC.2.1 hZ hS hC.2.2.2.2.2.1 (tb_use hC.2.2.2.2.2.2.1.1 hw rfl) (fun _ h => h) hd ((k _ (Or.inl rfl) r h' ho).2.2 p e R s m args below meth c H locs cells slots ls Q hC hd9 hr hc hs h1 h2 hH hS hl hQ)
  · exact va_gets hC.1 hC.2.1 hZ hS hC.2.2.2.2.2.1 (tb_use hC.2.2.2.2.2.2.1.1 hw rfl) (fun _ h => h) hd ((k _ (Or.inr ⟨t, rfl⟩) r h' ho).2.2 p e R s m args below meth c H locs cells slots ls Q hC hd9 hr hc hs h1 h2 hH hS hl hQ)
theorem g_scod {i j : Nat} (hj : j < 11) (hw : Cond.fieldLink M.1 i "java/lang/String" "coder" "B" ∈ lw_tbl) (hd : decode M.2.1 pc = .ok (.getfield i, 3)) (k : GG em l E M d lr n0 m0 (pc + 3) lv (.int 0 :: st) h o) : GG em l E M d lr n0 m0 pc lv (.ref (e_sA E j) :: st) h o := g_lift k (fun _ _ _ _ _ _ _ _ _ _ _ _ _ _ _ hC _ _ _ _ _ hS _ w => vk_getf hC.1 hC.2.1 (hC.2.2.2.2.2.2.1.2.2.2.2.2.2.1 j hj).2.2.1 hS hC.2.2.2.2.2.1 (tb_use hC.2.2.2.2.2.2.1.1 hw rfl) (fun _ h => h) hd w)
theorem g_sval {i j : Nat} (hj : j < 11) (hw : Cond.fieldLink M.1 i "java/lang/String" "value" "[B" ∈ lw_tbl) (hd : decode M.2.1 pc = .ok (.getfield i, 3)) (k : GG em l E M d lr n0 m0 (pc + 3) lv (.ref (e_sV E j) :: st) h o) : GG em l E M d lr n0 m0 pc lv (.ref (e_sA E j) :: st) h o := g_lift k (fun _ _ _ _ _ _ _ _ _ _ _ _ _ _ _ hC _ _ _ _ _ hS _ w => vk_getf hC.1 hC.2.1 (hC.2.2.2.2.2.2.1.2.2.2.2.2.2.1 j hj).2.2.2.1 hS hC.2.2.2.2.2.1 (tb_use hC.2.2.2.2.2.2.1.1 hw rfl) (fun _ h => h) hd w)
theorem g_vlen {j : Nat} (hj : j < 11) (hd : decode M.2.1 pc = .ok (.arraylength, 1)) (k : GG em l E M d lr n0 m0 (pc + 1) lv (.int (Int32.ofNat (rdb j).length) :: st) h o) : GG em l E M d lr n0 m0 pc lv (.ref (e_sV E j) :: st) h o := g_lift k (fun _ _ _ _ _ _ _ _ _ _ _ _ _ _ _ hC _ _ _ _ _ hS _ w => va_tlen hC.1 hC.2.1 (hC.2.2.2.2.2.2.1.2.2.2.2.2.2.1 j hj).2.2.2.2 hS rfl hd w)
theorem g_vld {j : Nat} {i : Int32} (hj : j < 11) (h1 : 0 ≤ i.toInt) (h2 : i.toInt < (rdb j).length) (hd : decode M.2.1 pc = .ok (.baload, 1)) (k : GG em l E M d lr n0 m0 (pc + 1) lv (.int ((rdb j).getD i.toNatClampNeg 0) :: st) h o) : GG em l E M d lr n0 m0 pc lv (.int i :: .ref (e_sV E j) :: st) h o := g_lift k (fun _ _ _ _ _ _ _ _ _ _ _ _ _ _ _ hC _ _ _ _ _ hS _ w => va_tb hC.1 hC.2.1 (hC.2.2.2.2.2.2.1.2.2.2.2.2.2.1 j hj).2.2.2.2 hS (vin_of h1 h2) rfl hd w)
theorem g_i2c {x : Int32} (hd : decode M.2.1 pc = .ok (.i2c, 1)) (k : GG em l E M d lr n0 m0 (pc + 1) lv (.int (x.toUInt32 % 65536).toInt32 :: st) h o) : GG em l E M d lr n0 m0 pc lv (.int x :: st) h o := g_lift k (fun _ _ _ _ _ _ _ _ _ _ _ _ _ _ _ hC _ _ _ _ _ _ _ w => lv_i2c hC.1 hC.2.1 hd rfl w)
theorem g_ifeqN {x : Int32} {off : Int} {tgt : Nat} (hx : ¬ x = 0) (hd : decode M.2.1 pc = .ok (.ifCond .eq off, 3)) (ht : (pc : Int) + off = (tgt : Int)) (k : GG em l E M d lr n0 m0 (pc + 3) lv st h o) : GG em l E M d lr n0 m0 pc lv (.int x :: st) h o := by
  have q := g_ifeq (o1 := none) (x := x) hd ht g_none k
  rw [if_neg hx] at q
  exact q
theorem g_ifneZ {off : Int} {tgt : Nat} (hd : decode M.2.1 pc = .ok (.ifCond .ne off, 3)) (ht : (pc : Int) + off = (tgt : Int)) (k : GG em l E M d lr n0 m0 (pc + 3) lv st h o) : GG em l E M d lr n0 m0 pc lv (.int 0 :: st) h o := by
  have q := g_ifne (o2 := none) (x := 0) hd ht k g_none
  rw [if_pos rfl] at q
  exact q
theorem g_ifltN {x : Int32} {off : Int} {tgt : Nat} (hx : ¬ x < 0) (hd : decode M.2.1 pc = .ok (.ifCond .lt off, 3)) (ht : (pc : Int) + off = (tgt : Int)) (k : GG em l E M d lr n0 m0 (pc + 3) lv st h o) : GG em l E M d lr n0 m0 pc lv (.int x :: st) h o := by
  have q := g_iflt (o1 := none) (x := x) hd ht g_none k
  rw [if_neg hx] at q
  exact q
theorem g_icmpltY {x y : Int32} {off : Int} {tgt : Nat} (hx : x < y) (hd : decode M.2.1 pc = .ok (.if_icmp .lt off, 3)) (ht : (pc : Int) + off = (tgt : Int)) (k : GG em l E M d lr n0 m0 tgt lv st h o) : GG em l E M d lr n0 m0 pc lv (.int y :: .int x :: st) h o := by
  have q := g_icmplt (o2 := none) (x := x) (y := y) hd ht k g_none
  rw [if_pos hx] at q
  exact q
/-- a known result -/
theorem g_bRk {β : Type} {em1 : β → aR} {ev : β → Option Value} {v : β} (hem : ∀ v, em1 v = .inl (ev v)) (hc : CC em1 l E M d lr n0 pc lv stk st h (some (v, h))) (kk : GG em l E M d lr n0 m0 (pc + 3) lv ((ev v).toList ++ st) h o) : GG em l E M d lr n0 m0 pc lv stk h o := by
  have q : GG em l E M d lr n0 m0 pc lv stk h (bR (some (v, h)) (fun v' h1 => @ite _ (v' = v ∧ h1 = h) (Classical.propDecidable _) o none)) := g_bR hem hc (fun v' h1 => by
    by_cases hq : v' = v ∧ h1 = h
    · rw [if_pos hq, hq.1, hq.2]; exact kk
    · rw [if_neg hq]; exact g_none)
  have e : bR (some (v, h)) (fun v' h1 => @ite _ (v' = v ∧ h1 = h) (Classical.propDecidable _) o none) = o := by
    show @ite _ (v = v ∧ h = h) (Classical.propDecidable _) o none = o
    exact if_pos ⟨rfl, rfl⟩
  rw [e] at q
  exact q
end GGS9
theorem y_J0_coder : yV "java/lang/String" yJ0_coder_7d493 (.code yJ0_coder_7d493 cJ0_coder_7d493 1 (some .byte)) 0 := ⟨sw683, tw21, ⟨by decide +kernel, by decide +kernel, by decide +kernel⟩, sw681, sw682⟩
theorem y_J0_isLatin1 : yV "java/lang/String" yJ0_isLatin1_aae02 (.code yJ0_isLatin1_aae02 cJ0_isLatin1_aae02 1 (some .boolean)) 0 := ⟨sw693, tw21, ⟨by decide +kernel, by decide +kernel, by decide +kernel⟩, sw691, sw692⟩
theorem y_J1_charAt : yS yJ1_charAt_3b067 (.code yJ1_charAt_3b067 cJ1_charAt_3b067 2 (some .char)) 2 := ⟨sw696, sw22, ⟨by decide +kernel, by decide +kernel, by decide +kernel⟩, sw695⟩
theorem y_J0_checkIndex : yS yJ0_checkIndex_df160 (.code yJ0_checkIndex_df160 cJ0_checkIndex_df160 2 none) 2 := ⟨sw699, tw21, ⟨by decide +kernel, by decide +kernel, by decide +kernel⟩, sw698⟩
theorem y_J3_checkIndex : yS yJ3_checkIndex_8e157 (.code yJ3_checkIndex_8e157 cJ3_checkIndex_8e157 3 (some .int)) 3 := ⟨sw704, sw23, ⟨by decide +kernel, by decide +kernel, by decide +kernel⟩, sw703⟩
theorem p_J0_coder {l : Launch} {E : aE} (hl : l.stackTraces = false) {i : Nat} (hi : i < 11) (h : aH) : MO (fun (v : Int32) => .inl (some (.int v))) l E yJ0_coder_7d493 (.code yJ0_coder_7d493 cJ0_coder_7d493 1 (some .byte)) 0 0 [.ref (e_sA E i)] h (some (0, h)) := by
  refine g_met hl (by decide +kernel) (Nat.le_of_ble_eq_true rfl) ?_
  refine g_cmp (pc := 0) sw684 dJ0_coder_7d493_0 ?_
  refine g_ifeqN (pc := 3) (tgt := 13) (by decide) dJ0_coder_7d493_3 rfl ?_
  refine g_aload_n (pc := 6) dJ0_coder_7d493_6 0 rfl ?_
  refine g_scod (pc := 7) hi sw2283 dJ0_coder_7d493_7 ?_
  refine g_goto (pc := 10) (tgt := 14) dJ0_coder_7d493_10 rfl ?_
  exact g_ret (pc := 14) rfl (Or.inr (Or.inl ⟨rfl, 0, .byte, rfl, rfl, rfl⟩)) dJ0_coder_7d493_14 rfl
theorem p_J0_isLatin1 {l : Launch} {E : aE} (hl : l.stackTraces = false) {i : Nat} (hi : i < 11) (h : aH) : MO (fun (v : Int32) => .inl (some (.int v))) l E yJ0_isLatin1_aae02 (.code yJ0_isLatin1_aae02 cJ0_isLatin1_aae02 1 (some .boolean)) 0 0 [.ref (e_sA E i)] h (some (1, h)) := by
  refine g_met hl (by decide +kernel) (Nat.le_of_ble_eq_true rfl) ?_
  refine g_cmp (pc := 0) sw684 dJ0_isLatin1_aae02_0 ?_
  refine g_ifeqN (pc := 3) (tgt := 17) (by decide) dJ0_isLatin1_aae02_3 rfl ?_
  refine g_aload_n (pc := 6) dJ0_isLatin1_aae02_6 0 rfl ?_
  refine g_scod (pc := 7) hi sw2283 dJ0_isLatin1_aae02_7 ?_
  refine g_ifneZ (pc := 10) (tgt := 17) dJ0_isLatin1_aae02_10 rfl ?_
  refine g_iconst (pc := 13) dJ0_isLatin1_aae02_13 ci_1 ?_
  refine g_goto (pc := 14) (tgt := 18) dJ0_isLatin1_aae02_14 rfl ?_
  exact g_ret (pc := 18) rfl (isRet_z (Or.inr rfl)) dJ0_isLatin1_aae02_18 rfl
theorem p_J3_checkIndex {l : Launch} {E : aE} (hl : l.stackTraces = false) {j n : Int32} {v : Value} (hv : v = .null ∨ ∃ t : Nat, v = .ref t) (h1 : ¬ j < 0) (h2 : j < n) (h : aH) : MO (fun (v : Int32) => .inl (some (.int v))) l E yJ3_checkIndex_8e157 (.code yJ3_checkIndex_8e157 cJ3_checkIndex_8e157 3 (some .int)) 0 0 [.int j, .int n, v] h (some (j, h)) := by
  refine g_met hl (by decide +kernel) (by rcases hv with rfl | ⟨t, rfl⟩ <;> exact Nat.le_of_ble_eq_true rfl) ?_
  refine g_iload_n (pc := 0) dJ3_checkIndex_8e157_0 0 rfl ?_
  refine g_ifltN (pc := 1) (tgt := 9) h1 dJ3_checkIndex_8e157_1 rfl ?_
  refine g_iload_n (pc := 4) dJ3_checkIndex_8e157_4 0 rfl ?_
  refine g_iload_n (pc := 5) dJ3_checkIndex_8e157_5 1 rfl ?_
  refine g_icmpltY (pc := 6) (tgt := 16) h2 dJ3_checkIndex_8e157_6 rfl ?_
  refine g_iload_n (pc := 16) dJ3_checkIndex_8e157_16 0 rfl ?_
  exact g_ret (pc := 17) rfl (isRet_i _) dJ3_checkIndex_8e157_17 rfl
theorem p_J0_checkIndex {l : Launch} {E : aE} (hl : l.stackTraces = false) {j n : Int32} (h1 : ¬ j < 0) (h2 : j < n) (h : aH) : MO (fun (_ : Unit) => .inl none) l E yJ0_checkIndex_df160 (.code yJ0_checkIndex_df160 cJ0_checkIndex_df160 2 none) 1 40 [.int j, .int n] h (some ((), h)) := by
  refine g_met hl (by decide +kernel) (Nat.le_of_ble_eq_true rfl) ?_
  refine g_iload_n (pc := 0) dJ0_checkIndex_df160_0 0 rfl ?_
  refine g_iload_n (pc := 1) dJ0_checkIndex_df160_1 1 rfl ?_
  refine g_fmt (pc := 2) sw700 dJ0_checkIndex_df160_2 (fun v hv => ?_)
  refine g_bRk (pc := 5) (ev := fun v => some (.int v)) (fun _ => rfl) (c_S (p_J3_checkIndex hl hv h1 h2 h) y_J3_checkIndex sw702 dJ0_checkIndex_df160_5 rfl (st := []) rfl (Nat.le_of_ble_eq_true rfl) (Nat.le_of_ble_eq_true rfl) (Nat.le_of_ble_eq_true rfl)) ?_
  refine g_pop (pc := 8) rfl dJ0_checkIndex_df160_8 ?_
  exact g_ret (pc := 9) rfl isRet_v dJ0_checkIndex_df160_9 rfl
theorem rd_len : ∀ i, i < 11 → Int32.ofNat (rdb i).length >>> ((0 : Int32) &&& 31) = nI (rdb i).length ∧ (rdb i).length < 2 ^ 31 := by decide +kernel
theorem rd_chr : ∀ i, i < 11 → ∀ k, k < 8 → (((rdb i).getD k 0 &&& 255).toUInt32 % 65536).toInt32 = (rdb i).getD k 0 ∧ narrow .char (.int ((rdb i).getD k 0)) = .int ((rdb i).getD k 0) := by decide +kernel
theorem rd_le : ∀ i, i < 11 → (rdb i).length ≤ 8 := by decide +kernel
theorem p_J1_charAt {l : Launch} {E : aE} (hl : l.stackTraces = false) {i : Nat} {j : Int32} (hi : i < 11) (h1 : 0 ≤ j.toInt) (h2 : j.toInt < (rdb i).length) (h : aH) : MO (fun (v : Int32) => .inl (some (.int v))) l E yJ1_charAt_3b067 (.code yJ1_charAt_3b067 cJ1_charAt_3b067 2 (some .char)) 2 90 [.ref (e_sV E i), .int j] h (some ((rdb i).getD j.toNatClampNeg 0, h)) := by
  have q1 : ¬ j < 0 := by rw [Int32.lt_iff_toInt_lt]; simpa using h1
  have q2 : j < Int32.ofNat (rdb i).length := by
    rw [Int32.lt_iff_toInt_lt, Int32.toInt_ofNat_of_lt (rd_len i hi).2]; exact h2
  have q3 : j.toNatClampNeg < 8 := by
    have := rd_le i hi
    have e : j.toNatClampNeg = j.toInt.toNat := rfl
    omega
  refine g_met hl (by decide +kernel) (Nat.le_of_ble_eq_true rfl) ?_
  refine g_iload_n (pc := 0) dJ1_charAt_3b067_0 1 rfl ?_
  refine g_aload_n (pc := 1) dJ1_charAt_3b067_1 0 rfl ?_
  refine g_vlen (pc := 2) hi dJ1_charAt_3b067_2 ?_
  refine g_bRk (pc := 3) (ev := fun (_ : Unit) => none) (fun _ => rfl) (c_S (p_J0_checkIndex hl q1 q2 h) y_J0_checkIndex sw697 dJ1_charAt_3b067_3 rfl (st := []) rfl (Nat.le_of_ble_eq_true rfl) (Nat.le_of_ble_eq_true rfl) (Nat.le_of_ble_eq_true rfl)) ?_
  refine g_aload_n (pc := 6) dJ1_charAt_3b067_6 0 rfl ?_
  refine g_iload_n (pc := 7) dJ1_charAt_3b067_7 1 rfl ?_
  refine g_vld (pc := 8) hi h1 h2 dJ1_charAt_3b067_8 ?_
  refine g_sipush (pc := 9) (v := 255) dJ1_charAt_3b067_9 (by decide +kernel) ?_
  refine g_iand (pc := 12) dJ1_charAt_3b067_12 ?_
  refine g_i2c (pc := 13) dJ1_charAt_3b067_13 ?_
  refine g_ret (pc := 14) rfl (Or.inr (Or.inl ⟨rfl, _, .char, rfl, rfl, (rd_chr i hi _ q3).2⟩)) dJ1_charAt_3b067_14 ?_
  rw [(rd_chr i hi _ q3).1]
  rfl
theorem p_J0_length_8abf5 {l : Launch} {E : aE} (hl : l.stackTraces = false) (i : Nat) (h : aH) : MO (fun (v : Int32) => .inl (some (.int v))) l E yJ0_length_8abf5 (.code yJ0_length_8abf5 cJ0_length_8abf5 1 (some .int)) 3 90 [.ref (e_sA E i)] h (m_J0_length_8abf5 i h) := by
  by_cases hi : i < 11
  · rw [m_J0_length_8abf5, if_pos hi]
    refine g_met hl (by decide +kernel) (Nat.le_of_ble_eq_true rfl) ?_
    refine g_aload_n (pc := 0) dJ0_length_8abf5_0 0 rfl ?_
    refine g_sval (pc := 1) hi sw2282 dJ0_length_8abf5_1 ?_
    refine g_vlen (pc := 4) hi dJ0_length_8abf5_4 ?_
    refine g_aload_n (pc := 5) dJ0_length_8abf5_5 0 rfl ?_
    refine g_bRk (pc := 6) (ev := fun v => some (.int v)) (fun _ => rfl) (c_Str hi (p_J0_coder hl hi h) y_J0_coder sw680 dJ0_length_8abf5_6 rfl (st := [.int (Int32.ofNat (rdb i).length)]) rfl (Nat.le_of_ble_eq_true rfl) (Nat.le_of_ble_eq_true rfl) (Nat.le_of_ble_eq_true rfl)) ?_
    refine g_ishr (pc := 9) dJ0_length_8abf5_9 ?_
    refine g_ret (pc := 10) rfl (isRet_i _) dJ0_length_8abf5_10 ?_
    rw [(rd_len i hi).1]
    rfl
  · rw [m_J0_length_8abf5, if_neg hi]
    exact fun r h' ho => nomatch ho
theorem p_J0_charAt_5068e {l : Launch} {E : aE} (hl : l.stackTraces = false) (i : Nat) (j : Int32) (h : aH) : MO (fun (v : Int32) => .inl (some (.int v))) l E yJ0_charAt_5068e (.code yJ0_charAt_5068e cJ0_charAt_5068e 2 (some .char)) 6 200 [.ref (e_sA E i), .int j] h (m_J0_charAt_5068e i j h) := by
  by_cases hi : i < 11 ∧ 0 ≤ j.toInt ∧ j.toInt < (rdb i).length
  · rw [m_J0_charAt_5068e, if_pos hi]
    obtain ⟨hi, h1, h2⟩ := hi
    have q3 : j.toNatClampNeg < 8 := by
      have := rd_le i hi
      have e : j.toNatClampNeg = j.toInt.toNat := rfl
      omega
    refine g_met hl (by decide +kernel) (Nat.le_of_ble_eq_true rfl) ?_
    refine g_aload_n (pc := 0) dJ0_charAt_5068e_0 0 rfl ?_
    refine g_bRk (pc := 1) (ev := fun v => some (.int v)) (fun _ => rfl) (c_Str hi (p_J0_isLatin1 hl hi h) y_J0_isLatin1 sw690 dJ0_charAt_5068e_1 rfl (st := []) rfl (Nat.le_of_ble_eq_true rfl) (Nat.le_of_ble_eq_true rfl) (Nat.le_of_ble_eq_true rfl)) ?_
    refine g_ifeqN (pc := 4) (tgt := 16) (by decide) dJ0_charAt_5068e_4 rfl ?_
    refine g_aload_n (pc := 7) dJ0_charAt_5068e_7 0 rfl ?_
    refine g_sval (pc := 8) hi sw2282 dJ0_charAt_5068e_8 ?_
    refine g_iload_n (pc := 11) dJ0_charAt_5068e_11 1 rfl ?_
    refine g_bRk (pc := 12) (ev := fun v => some (.int v)) (fun _ => rfl) (c_S (p_J1_charAt hl hi h1 h2 h) y_J1_charAt sw694 dJ0_charAt_5068e_12 rfl (st := []) rfl (Nat.le_of_ble_eq_true rfl) (Nat.le_of_ble_eq_true rfl) (Nat.le_of_ble_eq_true rfl)) ?_
    exact g_ret (pc := 15) rfl (Or.inr (Or.inl ⟨rfl, _, .char, rfl, rfl, (rd_chr i hi _ q3).2⟩)) dJ0_charAt_5068e_15 rfl
  · rw [m_J0_charAt_5068e, if_neg hi]
    exact fun r h' ho => nomatch ho
