/-! proofs of methods -/
theorem dX11_needLeaver_0 : decode cX11_needLeaver 0 = .ok (.aload_n 0, 1) := by decide +kernel
theorem dX11_needLeaver_1 : decode cX11_needLeaver 1 = .ok (.iload_n 1, 1) := by decide +kernel
theorem dX11_needLeaver_2 : decode cX11_needLeaver 2 = .ok (.invokevirtual 241, 3) := by decide +kernel
theorem dX11_needLeaver_5 : decode cX11_needLeaver 5 = .ok (.iload_n 2, 1) := by decide +kernel
theorem dX11_needLeaver_6 : decode cX11_needLeaver 6 = .ok (.ifCond .lt 19, 3) := by decide +kernel
theorem dX11_needLeaver_9 : decode cX11_needLeaver 9 = .ok (.iload_n 2, 1) := by decide +kernel
theorem dX11_needLeaver_10 : decode cX11_needLeaver 10 = .ok (.aload_n 0, 1) := by decide +kernel
theorem dX11_needLeaver_11 : decode cX11_needLeaver 11 = .ok (.getfield 37, 3) := by decide +kernel
theorem dX11_needLeaver_14 : decode cX11_needLeaver 14 = .ok (.getfield 131, 3) := by decide +kernel
theorem dX11_needLeaver_17 : decode cX11_needLeaver 17 = .ok (.getfield 257, 3) := by decide +kernel
theorem dX11_needLeaver_20 : decode cX11_needLeaver 20 = .ok (.iload_n 1, 1) := by decide +kernel
theorem dX11_needLeaver_21 : decode cX11_needLeaver 21 = .ok (.iaload, 1) := by decide +kernel
theorem dX11_needLeaver_22 : decode cX11_needLeaver 22 = .ok (.if_icmp .lt 14, 3) := by decide +kernel
theorem dX11_needLeaver_25 : decode cX11_needLeaver 25 = .ok (.new 85, 3) := by decide +kernel
theorem dX11_needLeaver_28 : decode cX11_needLeaver 28 = .ok (.dup, 1) := by decide +kernel
theorem dX11_needLeaver_29 : decode cX11_needLeaver 29 = .ok (.ldc_w 447, 3) := by decide +kernel
theorem dX11_needLeaver_32 : decode cX11_needLeaver 32 = .ok (.invokespecial 89, 3) := by decide +kernel
theorem dX11_needLeaver_35 : decode cX11_needLeaver 35 = .ok (.athrow, 1) := by decide +kernel
theorem dX11_needLeaver_36 : decode cX11_needLeaver 36 = .ok (.return_, 1) := by decide +kernel
abbrev M_X11_needLeaver : aM := (yX11_needLeaver.cls, cX11_needLeaver, 3, none, [], yX11_needLeaver.name == "<init>")
abbrev J_X11_needLeaver (l : Launch) (E : aE) (n0 m0 : Nat) := GG (eT (fun (_ : Unit) => none)) l E M_X11_needLeaver 7 111 n0 m0
theorem b_X11_needLeaver {l : Launch} {E : aE} (hl : l.stackTraces = false) (n0 m0 : Nat) (x1 : Nat) (x2 : Int32) (x3 : Int32) (h0 : aH) : J_X11_needLeaver l E n0 m0 0 [(0, .ref (e_z E + x1)), (1, .int x2), (2, .int x3)] [] h0 (m_X11_needLeaver x1 x2 x3 h0) := by
  unfold m_X11_needLeaver
  refine g_aload_n (pc := 0) dX11_needLeaver_0 0 rfl ?_
  refine g_iload_n (pc := 1) dX11_needLeaver_1 1 rfl ?_
  refine g_gS (fun hs => ?_)
  refine g_bXv (pc := 2) rfl (c_V cl11 hs (p_X11_needCall hl x1 x2 h0) y_X11_needCall tw1155 dX11_needLeaver_2 rfl (st := []) rfl (Nat.le_of_ble_eq_true rfl) (Nat.le_of_ble_eq_true rfl) (Nat.le_of_ble_eq_true rfl)) (fun _ h1 => ?_)
  refine g_iload_n (pc := 5) dX11_needLeaver_5 2 rfl ?_
  refine g_join (fun k => ∀ (h2 : aH), J_X11_needLeaver l E n0 m0 25 [] [] h2 (k h2)) (fun h2 => ?_) (fun k25 hk25 => ?_)
  · exact g_throwEW (pc := 25) rfl exf_IOB exn tx_18 ⟨tw622, rfl, rfl⟩ exi_IOB (xw_of exw_IOB ⟨tw632, rfl, rfl⟩) dX11_needLeaver_25 dX11_needLeaver_28 dX11_needLeaver_29 dX11_needLeaver_32 dX11_needLeaver_35 (Nat.le_of_ble_eq_true rfl) (Nat.le_of_ble_eq_true rfl)
  refine g_iflt (pc := 6) (tgt := 25) dX11_needLeaver_6 rfl ?_ ?_
  · refine g_lv [] rfl ?_
    exact hk25 h1
  · refine g_iload_n (pc := 9) dX11_needLeaver_9 2 rfl ?_
    refine g_aload_n (pc := 10) dX11_needLeaver_10 0 rfl ?_
    refine g_getr (pc := 11) cl11 (Nat.le_of_ble_eq_true rfl) fk495 (fun _ _ _ => rfl) dX11_needLeaver_11 (fun x4 => ?_)
    refine g_getr (pc := 14) cl10 (Nat.le_of_ble_eq_true rfl) fk379 (fun _ _ _ => rfl) dX11_needLeaver_14 (fun x5 => ?_)
    refine g_getr (pc := 17) cl0 (Nat.le_of_ble_eq_true rfl) fk323 (fun _ _ _ => rfl) dX11_needLeaver_17 (fun x6 => ?_)
    refine g_iload_n (pc := 20) dX11_needLeaver_20 1 rfl ?_
    refine g_iald (pc := 21) dX11_needLeaver_21 (fun x7 => ?_)
    refine g_icmplt (pc := 22) (tgt := 36) dX11_needLeaver_22 rfl ?_ ?_
    · exact g_ret (pc := 36) rfl isRet_v dX11_needLeaver_36 rfl
    · refine g_lv [] rfl ?_
      exact hk25 h1
theorem p_X11_needLeaver {l : Launch} {E : aE} (hl : l.stackTraces = false) (x1 : Nat) (x2 : Int32) (x3 : Int32) (h0 : aH) : MO (eT (fun (_ : Unit) => none)) l E yX11_needLeaver (.code yX11_needLeaver cX11_needLeaver 3 none) 7 111 [.ref (e_z E + x1), .int x2, .int x3] h0 (m_X11_needLeaver x1 x2 x3 h0) := g_met hl (by decide +kernel) (Nat.le_of_ble_eq_true rfl) (b_X11_needLeaver hl _ _ x1 x2 x3 h0)
theorem dX11_engine_0 : decode cX11_engine 0 = .ok (.aload_n 0, 1) := by decide +kernel
theorem dX11_engine_1 : decode cX11_engine 1 = .ok (.iload_n 1, 1) := by decide +kernel
theorem dX11_engine_2 : decode cX11_engine 2 = .ok (.iload_n 2, 1) := by decide +kernel
theorem dX11_engine_3 : decode cX11_engine 3 = .ok (.invokevirtual 260, 3) := by decide +kernel
theorem dX11_engine_6 : decode cX11_engine 6 = .ok (.aload_n 0, 1) := by decide +kernel
theorem dX11_engine_7 : decode cX11_engine 7 = .ok (.getfield 37, 3) := by decide +kernel
theorem dX11_engine_10 : decode cX11_engine 10 = .ok (.getfield 131, 3) := by decide +kernel
theorem dX11_engine_13 : decode cX11_engine 13 = .ok (.getfield 263, 3) := by decide +kernel
theorem dX11_engine_16 : decode cX11_engine 16 = .ok (.iload_n 1, 1) := by decide +kernel
theorem dX11_engine_17 : decode cX11_engine 17 = .ok (.iconst 5, 1) := by decide +kernel
theorem dX11_engine_18 : decode cX11_engine 18 = .ok (.imul, 1) := by decide +kernel
theorem dX11_engine_19 : decode cX11_engine 19 = .ok (.iload_n 2, 1) := by decide +kernel
theorem dX11_engine_20 : decode cX11_engine 20 = .ok (.iadd, 1) := by decide +kernel
theorem dX11_engine_21 : decode cX11_engine 21 = .ok (.iaload, 1) := by decide +kernel
theorem dX11_engine_22 : decode cX11_engine 22 = .ok (.ireturn, 1) := by decide +kernel
abbrev M_X11_engine : aM := (yX11_engine.cls, cX11_engine, 3, (some .int), [], yX11_engine.name == "<init>")
abbrev J_X11_engine (l : Launch) (E : aE) (n0 m0 : Nat) := GG (eT (fun (v : Int32) => some (.int v))) l E M_X11_engine 8 133 n0 m0
theorem b_X11_engine {l : Launch} {E : aE} (hl : l.stackTraces = false) (n0 m0 : Nat) (x1 : Nat) (x2 : Int32) (x3 : Int32) (h0 : aH) : J_X11_engine l E n0 m0 0 [(0, .ref (e_z E + x1)), (1, .int x2), (2, .int x3)] [] h0 (m_X11_engine x1 x2 x3 h0) := by
  unfold m_X11_engine
  refine g_aload_n (pc := 0) dX11_engine_0 0 rfl ?_
  refine g_iload_n (pc := 1) dX11_engine_1 1 rfl ?_
  refine g_iload_n (pc := 2) dX11_engine_2 2 rfl ?_
  refine g_gS (fun hs => ?_)
  refine g_bXv (pc := 3) rfl (c_V cl11 hs (p_X11_needLeaver hl x1 x2 x3 h0) y_X11_needLeaver tw1189 dX11_engine_3 rfl (st := []) rfl (Nat.le_of_ble_eq_true rfl) (Nat.le_of_ble_eq_true rfl) (Nat.le_of_ble_eq_true rfl)) (fun _ h1 => ?_)
  refine g_aload_n (pc := 6) dX11_engine_6 0 rfl ?_
  refine g_getr (pc := 7) cl11 (Nat.le_of_ble_eq_true rfl) fk495 (fun _ _ _ => rfl) dX11_engine_7 (fun x4 => ?_)
  refine g_getr (pc := 10) cl10 (Nat.le_of_ble_eq_true rfl) fk379 (fun _ _ _ => rfl) dX11_engine_10 (fun x5 => ?_)
  refine g_getr (pc := 13) cl0 (Nat.le_of_ble_eq_true rfl) fk325 (fun _ _ _ => rfl) dX11_engine_13 (fun x6 => ?_)
  refine g_iload_n (pc := 16) dX11_engine_16 1 rfl ?_
  refine g_iconst (pc := 17) dX11_engine_17 ci_5 ?_
  refine g_imul (pc := 18) dX11_engine_18 ?_
  refine g_iload_n (pc := 19) dX11_engine_19 2 rfl ?_
  refine g_iadd (pc := 20) dX11_engine_20 ?_
  refine g_iald (pc := 21) dX11_engine_21 (fun x7 => ?_)
  exact g_ret (pc := 22) rfl (isRet_i _) dX11_engine_22 rfl
theorem p_X11_engine {l : Launch} {E : aE} (hl : l.stackTraces = false) (x1 : Nat) (x2 : Int32) (x3 : Int32) (h0 : aH) : MO (eT (fun (v : Int32) => some (.int v))) l E yX11_engine (.code yX11_engine cX11_engine 3 (some .int)) 8 133 [.ref (e_z E + x1), .int x2, .int x3] h0 (m_X11_engine x1 x2 x3 h0) := g_met hl (by decide +kernel) (Nat.le_of_ble_eq_true rfl) (b_X11_engine hl _ _ x1 x2 x3 h0)
theorem dX11_leftAt_0 : decode cX11_leftAt 0 = .ok (.aload_n 0, 1) := by decide +kernel
theorem dX11_leftAt_1 : decode cX11_leftAt 1 = .ok (.iload_n 1, 1) := by decide +kernel
theorem dX11_leftAt_2 : decode cX11_leftAt 2 = .ok (.iload_n 2, 1) := by decide +kernel
theorem dX11_leftAt_3 : decode cX11_leftAt 3 = .ok (.invokevirtual 260, 3) := by decide +kernel
theorem dX11_leftAt_6 : decode cX11_leftAt 6 = .ok (.aload_n 0, 1) := by decide +kernel
theorem dX11_leftAt_7 : decode cX11_leftAt 7 = .ok (.getfield 37, 3) := by decide +kernel
theorem dX11_leftAt_10 : decode cX11_leftAt 10 = .ok (.getfield 131, 3) := by decide +kernel
theorem dX11_leftAt_13 : decode cX11_leftAt 13 = .ok (.getfield 266, 3) := by decide +kernel
theorem dX11_leftAt_16 : decode cX11_leftAt 16 = .ok (.iload_n 1, 1) := by decide +kernel
theorem dX11_leftAt_17 : decode cX11_leftAt 17 = .ok (.iconst 5, 1) := by decide +kernel
theorem dX11_leftAt_18 : decode cX11_leftAt 18 = .ok (.imul, 1) := by decide +kernel
theorem dX11_leftAt_19 : decode cX11_leftAt 19 = .ok (.iload_n 2, 1) := by decide +kernel
theorem dX11_leftAt_20 : decode cX11_leftAt 20 = .ok (.iadd, 1) := by decide +kernel
theorem dX11_leftAt_21 : decode cX11_leftAt 21 = .ok (.iaload, 1) := by decide +kernel
theorem dX11_leftAt_22 : decode cX11_leftAt 22 = .ok (.ireturn, 1) := by decide +kernel
abbrev M_X11_leftAt : aM := (yX11_leftAt.cls, cX11_leftAt, 3, (some .int), [], yX11_leftAt.name == "<init>")
abbrev J_X11_leftAt (l : Launch) (E : aE) (n0 m0 : Nat) := GG (eT (fun (v : Int32) => some (.int v))) l E M_X11_leftAt 8 133 n0 m0
theorem b_X11_leftAt {l : Launch} {E : aE} (hl : l.stackTraces = false) (n0 m0 : Nat) (x1 : Nat) (x2 : Int32) (x3 : Int32) (h0 : aH) : J_X11_leftAt l E n0 m0 0 [(0, .ref (e_z E + x1)), (1, .int x2), (2, .int x3)] [] h0 (m_X11_leftAt x1 x2 x3 h0) := by
  unfold m_X11_leftAt
  refine g_aload_n (pc := 0) dX11_leftAt_0 0 rfl ?_
  refine g_iload_n (pc := 1) dX11_leftAt_1 1 rfl ?_
  refine g_iload_n (pc := 2) dX11_leftAt_2 2 rfl ?_
  refine g_gS (fun hs => ?_)
  refine g_bXv (pc := 3) rfl (c_V cl11 hs (p_X11_needLeaver hl x1 x2 x3 h0) y_X11_needLeaver tw1189 dX11_leftAt_3 rfl (st := []) rfl (Nat.le_of_ble_eq_true rfl) (Nat.le_of_ble_eq_true rfl) (Nat.le_of_ble_eq_true rfl)) (fun _ h1 => ?_)
  refine g_aload_n (pc := 6) dX11_leftAt_6 0 rfl ?_
  refine g_getr (pc := 7) cl11 (Nat.le_of_ble_eq_true rfl) fk495 (fun _ _ _ => rfl) dX11_leftAt_7 (fun x4 => ?_)
  refine g_getr (pc := 10) cl10 (Nat.le_of_ble_eq_true rfl) fk379 (fun _ _ _ => rfl) dX11_leftAt_10 (fun x5 => ?_)
  refine g_getr (pc := 13) cl0 (Nat.le_of_ble_eq_true rfl) fk327 (fun _ _ _ => rfl) dX11_leftAt_13 (fun x6 => ?_)
  refine g_iload_n (pc := 16) dX11_leftAt_16 1 rfl ?_
  refine g_iconst (pc := 17) dX11_leftAt_17 ci_5 ?_
  refine g_imul (pc := 18) dX11_leftAt_18 ?_
  refine g_iload_n (pc := 19) dX11_leftAt_19 2 rfl ?_
  refine g_iadd (pc := 20) dX11_leftAt_20 ?_
  refine g_iald (pc := 21) dX11_leftAt_21 (fun x7 => ?_)
  exact g_ret (pc := 22) rfl (isRet_i _) dX11_leftAt_22 rfl
theorem p_X11_leftAt {l : Launch} {E : aE} (hl : l.stackTraces = false) (x1 : Nat) (x2 : Int32) (x3 : Int32) (h0 : aH) : MO (eT (fun (v : Int32) => some (.int v))) l E yX11_leftAt (.code yX11_leftAt cX11_leftAt 3 (some .int)) 8 133 [.ref (e_z E + x1), .int x2, .int x3] h0 (m_X11_leftAt x1 x2 x3 h0) := g_met hl (by decide +kernel) (Nat.le_of_ble_eq_true rfl) (b_X11_leftAt hl _ _ x1 x2 x3 h0)
theorem dX11_nthOf_0 : decode cX11_nthOf 0 = .ok (.iconst 0, 1) := by decide +kernel
theorem dX11_nthOf_1 : decode cX11_nthOf 1 = .ok (.istore_n 2, 1) := by decide +kernel
theorem dX11_nthOf_2 : decode cX11_nthOf 2 = .ok (.iconst 0, 1) := by decide +kernel
theorem dX11_nthOf_3 : decode cX11_nthOf 3 = .ok (.istore_n 3, 1) := by decide +kernel
theorem dX11_nthOf_4 : decode cX11_nthOf 4 = .ok (.iload_n 3, 1) := by decide +kernel
theorem dX11_nthOf_5 : decode cX11_nthOf 5 = .ok (.bipush 12, 2) := by decide +kernel
theorem dX11_nthOf_7 : decode cX11_nthOf 7 = .ok (.if_icmp .ge 27, 3) := by decide +kernel
theorem dX11_nthOf_10 : decode cX11_nthOf 10 = .ok (.iload_n 0, 1) := by decide +kernel
theorem dX11_nthOf_11 : decode cX11_nthOf 11 = .ok (.iload_n 3, 1) := by decide +kernel
theorem dX11_nthOf_12 : decode cX11_nthOf 12 = .ok (.invokestatic 250, 3) := by decide +kernel
theorem dX11_nthOf_15 : decode cX11_nthOf 15 = .ok (.ifCond .eq 13, 3) := by decide +kernel
theorem dX11_nthOf_18 : decode cX11_nthOf 18 = .ok (.iload_n 2, 1) := by decide +kernel
theorem dX11_nthOf_19 : decode cX11_nthOf 19 = .ok (.iload_n 1, 1) := by decide +kernel
theorem dX11_nthOf_20 : decode cX11_nthOf 20 = .ok (.if_icmp .ne 5, 3) := by decide +kernel
theorem dX11_nthOf_23 : decode cX11_nthOf 23 = .ok (.iload_n 3, 1) := by decide +kernel
theorem dX11_nthOf_24 : decode cX11_nthOf 24 = .ok (.ireturn, 1) := by decide +kernel
theorem dX11_nthOf_25 : decode cX11_nthOf 25 = .ok (.iinc 2 1, 3) := by decide +kernel
theorem dX11_nthOf_28 : decode cX11_nthOf 28 = .ok (.iinc 3 1, 3) := by decide +kernel
theorem dX11_nthOf_31 : decode cX11_nthOf 31 = .ok (.goto (-27), 3) := by decide +kernel
theorem dX11_nthOf_34 : decode cX11_nthOf 34 = .ok (.iconst (-1), 1) := by decide +kernel
theorem dX11_nthOf_35 : decode cX11_nthOf 35 = .ok (.ireturn, 1) := by decide +kernel
abbrev M_X11_nthOf : aM := (yX11_nthOf.cls, cX11_nthOf, 4, (some .int), [], yX11_nthOf.name == "<init>")
abbrev J_X11_nthOf (l : Launch) (E : aE) (n0 m0 : Nat) := GG (fun (v : Int32) => .inl (some (.int v))) l E M_X11_nthOf 1 21 n0 m0
theorem b_X11_nthOf {l : Launch} {E : aE} (hl : l.stackTraces = false) (n0 m0 : Nat) (x1 : Int32) (x2 : Int32) (h0 : aH) : J_X11_nthOf l E n0 m0 0 [(0, .int x1), (1, .int x2)] [] h0 (m_X11_nthOf x1 x2 h0) := by
  unfold m_X11_nthOf
  refine g_iconst (pc := 0) dX11_nthOf_0 ci_0 ?_
  refine g_istore_n (pc := 1) (lv' := [(2, .int (0 : Int32)), (0, .int x1), (1, .int x2)]) dX11_nthOf_1 (Nat.le_of_ble_eq_true rfl) rfl ?_
  refine g_iconst (pc := 2) dX11_nthOf_2 ci_0 ?_
  refine g_istore_n (pc := 3) (lv' := [(3, .int (0 : Int32)), (2, .int (0 : Int32)), (0, .int x1), (1, .int x2)]) dX11_nthOf_3 (Nat.le_of_ble_eq_true rfl) rfl ?_
  refine g_join (fun k => ∀ (h1 : aH), J_X11_nthOf l E n0 m0 34 [] [] h1 (k h1)) (fun h1 => ?_) (fun k34 hk34 => ?_)
  · refine g_iconst (pc := 34) dX11_nthOf_34 ci_m1 ?_
    exact g_ret (pc := 35) rfl (isRet_i _) dX11_nthOf_35 rfl
  refine g_join (fun k => ∀ (x3 : Int32) (h2 : aH), J_X11_nthOf l E n0 m0 23 [(3, .int x3)] [] h2 (k x3 h2)) (fun x3 h2 => ?_) (fun k23 hk23 => ?_)
  · refine g_iload_n (pc := 23) dX11_nthOf_23 0 rfl ?_
    exact g_ret (pc := 24) rfl (isRet_i _) dX11_nthOf_24 rfl
  refine g_lv [2, 3, 1, 0] rfl ?_
  refine g_loop2 (F := (m_X11_nthOf_L4 x1 x2 k34 k23)) (fun x4 x5 => [(0, .int x1), (1, .int x2), (2, .int x4), (3, .int x5)]) (fun r4 hr4 x4 x5 h3 => ?_) _ _ _ _
  unfold m_X11_nthOf_L4
  refine g_iload_n (pc := 4) dX11_nthOf_4 3 rfl ?_
  refine g_bipush (pc := 5) dX11_nthOf_5 cb_12 ?_
  refine g_icmpge (pc := 7) (tgt := 34) dX11_nthOf_7 rfl ?_ ?_
  · refine g_iload_n (pc := 10) dX11_nthOf_10 0 rfl ?_
    refine g_iload_n (pc := 11) dX11_nthOf_11 3 rfl ?_
    refine g_bRi (pc := 12) (c_S (p_X11_has hl x1 x5 h3) y_X11_has tw1167 dX11_nthOf_12 rfl (st := []) rfl (Nat.le_of_ble_eq_true rfl) (Nat.le_of_ble_eq_true rfl) (Nat.le_of_ble_eq_true rfl)) (fun x6 h4 => ?_)
    refine g_join (fun k => ∀ (x7 : Int32) (h5 : aH), J_X11_nthOf l E n0 m0 28 [(0, .int x1), (1, .int x2), (2, .int x7), (3, .int x5)] [] h5 (k x7 h5)) (fun x7 h5 => ?_) (fun k28 hk28 => ?_)
    · refine g_iincN (pc := 28) dX11_nthOf_28 3 rfl ci_1 (Nat.le_of_ble_eq_true rfl) (fun x8 => ?_)
      refine g_lvr (lv' := [(3, .int x8), (0, .int x1), (1, .int x2), (2, .int x7)]) rfl ?_
      refine g_goto (pc := 31) (tgt := 4) dX11_nthOf_31 rfl ?_
      refine g_lv [1, 2, 3, 0] rfl ?_
      exact hr4 x7 x8 h5
    refine g_ifeq (pc := 15) (tgt := 28) dX11_nthOf_15 rfl ?_ ?_
    · exact hk28 x4 h4
    · refine g_iload_n (pc := 18) dX11_nthOf_18 2 rfl ?_
      refine g_iload_n (pc := 19) dX11_nthOf_19 1 rfl ?_
      refine g_icmpne (pc := 20) (tgt := 25) dX11_nthOf_20 rfl ?_ ?_
      · refine g_lv [3] rfl ?_
        exact hk23 x5 h4
      · refine g_iincN (pc := 25) dX11_nthOf_25 2 rfl ci_1 (Nat.le_of_ble_eq_true rfl) (fun x9 => ?_)
        refine g_lvr (lv' := [(2, .int x9), (0, .int x1), (1, .int x2), (3, .int x5)]) rfl ?_
        refine g_lv [1, 2, 0, 3] rfl ?_
        exact hk28 x9 h4
  · refine g_lv [] rfl ?_
    exact hk34 h3
theorem p_X11_nthOf {l : Launch} {E : aE} (hl : l.stackTraces = false) (x1 : Int32) (x2 : Int32) (h0 : aH) : MO (fun (v : Int32) => .inl (some (.int v))) l E yX11_nthOf (.code yX11_nthOf cX11_nthOf 4 (some .int)) 1 21 [.int x1, .int x2] h0 (m_X11_nthOf x1 x2 h0) := g_met hl (by decide +kernel) (Nat.le_of_ble_eq_true rfl) (b_X11_nthOf hl _ _ x1 x2 h0)
theorem dX11_member_0 : decode cX11_member 0 = .ok (.aload_n 0, 1) := by decide +kernel
theorem dX11_member_1 : decode cX11_member 1 = .ok (.iload_n 1, 1) := by decide +kernel
theorem dX11_member_2 : decode cX11_member 2 = .ok (.iload_n 2, 1) := by decide +kernel
theorem dX11_member_3 : decode cX11_member 3 = .ok (.invokevirtual 260, 3) := by decide +kernel
theorem dX11_member_6 : decode cX11_member 6 = .ok (.aload_n 0, 1) := by decide +kernel
theorem dX11_member_7 : decode cX11_member 7 = .ok (.getfield 37, 3) := by decide +kernel
theorem dX11_member_10 : decode cX11_member 10 = .ok (.getfield 131, 3) := by decide +kernel
theorem dX11_member_13 : decode cX11_member 13 = .ok (.getfield 269, 3) := by decide +kernel
theorem dX11_member_16 : decode cX11_member 16 = .ok (.iload_n 1, 1) := by decide +kernel
theorem dX11_member_17 : decode cX11_member 17 = .ok (.iconst 5, 1) := by decide +kernel
theorem dX11_member_18 : decode cX11_member 18 = .ok (.imul, 1) := by decide +kernel
theorem dX11_member_19 : decode cX11_member 19 = .ok (.iload_n 2, 1) := by decide +kernel
theorem dX11_member_20 : decode cX11_member 20 = .ok (.iadd, 1) := by decide +kernel
theorem dX11_member_21 : decode cX11_member 21 = .ok (.iaload, 1) := by decide +kernel
theorem dX11_member_22 : decode cX11_member 22 = .ok (.iload_n 3, 1) := by decide +kernel
theorem dX11_member_23 : decode cX11_member 23 = .ok (.invokestatic 272, 3) := by decide +kernel
theorem dX11_member_26 : decode cX11_member 26 = .ok (.istore 4, 2) := by decide +kernel
theorem dX11_member_28 : decode cX11_member 28 = .ok (.iload 4, 2) := by decide +kernel
theorem dX11_member_30 : decode cX11_member 30 = .ok (.iconst (-1), 1) := by decide +kernel
theorem dX11_member_31 : decode cX11_member 31 = .ok (.if_icmp .ne 14, 3) := by decide +kernel
theorem dX11_member_34 : decode cX11_member 34 = .ok (.new 85, 3) := by decide +kernel
theorem dX11_member_37 : decode cX11_member 37 = .ok (.dup, 1) := by decide +kernel
theorem dX11_member_38 : decode cX11_member 38 = .ok (.ldc_w 275, 3) := by decide +kernel
theorem dX11_member_41 : decode cX11_member 41 = .ok (.invokespecial 89, 3) := by decide +kernel
theorem dX11_member_44 : decode cX11_member 44 = .ok (.athrow, 1) := by decide +kernel
theorem dX11_member_45 : decode cX11_member 45 = .ok (.iload 4, 2) := by decide +kernel
theorem dX11_member_47 : decode cX11_member 47 = .ok (.ireturn, 1) := by decide +kernel
abbrev M_X11_member : aM := (yX11_member.cls, cX11_member, 5, (some .int), [], yX11_member.name == "<init>")
abbrev J_X11_member (l : Launch) (E : aE) (n0 m0 : Nat) := GG (eT (fun (v : Int32) => some (.int v))) l E M_X11_member 8 133 n0 m0
theorem b_X11_member {l : Launch} {E : aE} (hl : l.stackTraces = false) (n0 m0 : Nat) (x1 : Nat) (x2 : Int32) (x3 : Int32) (x4 : Int32) (h0 : aH) : J_X11_member l E n0 m0 0 [(0, .ref (e_z E + x1)), (1, .int x2), (2, .int x3), (3, .int x4)] [] h0 (m_X11_member x1 x2 x3 x4 h0) := by
  unfold m_X11_member
  refine g_aload_n (pc := 0) dX11_member_0 0 rfl ?_
  refine g_iload_n (pc := 1) dX11_member_1 1 rfl ?_
  refine g_iload_n (pc := 2) dX11_member_2 2 rfl ?_
  refine g_gS (fun hs => ?_)
  refine g_bXv (pc := 3) rfl (c_V cl11 hs (p_X11_needLeaver hl x1 x2 x3 h0) y_X11_needLeaver tw1189 dX11_member_3 rfl (st := []) rfl (Nat.le_of_ble_eq_true rfl) (Nat.le_of_ble_eq_true rfl) (Nat.le_of_ble_eq_true rfl)) (fun _ h1 => ?_)
  refine g_aload_n (pc := 6) dX11_member_6 0 rfl ?_
  refine g_getr (pc := 7) cl11 (Nat.le_of_ble_eq_true rfl) fk495 (fun _ _ _ => rfl) dX11_member_7 (fun x5 => ?_)
  refine g_getr (pc := 10) cl10 (Nat.le_of_ble_eq_true rfl) fk379 (fun _ _ _ => rfl) dX11_member_10 (fun x6 => ?_)
  refine g_getr (pc := 13) cl0 (Nat.le_of_ble_eq_true rfl) fk329 (fun _ _ _ => rfl) dX11_member_13 (fun x7 => ?_)
  refine g_iload_n (pc := 16) dX11_member_16 1 rfl ?_
  refine g_iconst (pc := 17) dX11_member_17 ci_5 ?_
  refine g_imul (pc := 18) dX11_member_18 ?_
  refine g_iload_n (pc := 19) dX11_member_19 2 rfl ?_
  refine g_iadd (pc := 20) dX11_member_20 ?_
  refine g_iald (pc := 21) dX11_member_21 (fun x8 => ?_)
  refine g_iload_n (pc := 22) dX11_member_22 3 rfl ?_
  refine g_bRi (pc := 23) (c_S (p_X11_nthOf hl x8 x4 h1) y_X11_nthOf tw1208 dX11_member_23 rfl (st := []) rfl (Nat.le_of_ble_eq_true rfl) (Nat.le_of_ble_eq_true rfl) (Nat.le_of_ble_eq_true rfl)) (fun x9 h2 => ?_)
  refine g_istore (pc := 26) (lv' := [(4, .int x9), (0, .ref (e_z E + x1)), (1, .int x2), (2, .int x3), (3, .int x4)]) dX11_member_26 (Nat.le_of_ble_eq_true rfl) rfl ?_
  refine g_iload (pc := 28) dX11_member_28 0 rfl ?_
  refine g_iconst (pc := 30) dX11_member_30 ci_m1 ?_
  refine g_icmpne (pc := 31) (tgt := 45) dX11_member_31 rfl ?_ ?_
  · exact g_throwEW (pc := 34) rfl exf_IOB exn tx_19 ⟨tw622, rfl, rfl⟩ exi_IOB (xw_of exw_IOB ⟨tw632, rfl, rfl⟩) dX11_member_34 dX11_member_37 dX11_member_38 dX11_member_41 dX11_member_44 (Nat.le_of_ble_eq_true rfl) (Nat.le_of_ble_eq_true rfl)
  · refine g_iload (pc := 45) dX11_member_45 0 rfl ?_
    exact g_ret (pc := 47) rfl (isRet_i _) dX11_member_47 rfl
theorem p_X11_member {l : Launch} {E : aE} (hl : l.stackTraces = false) (x1 : Nat) (x2 : Int32) (x3 : Int32) (x4 : Int32) (h0 : aH) : MO (eT (fun (v : Int32) => some (.int v))) l E yX11_member (.code yX11_member cX11_member 5 (some .int)) 8 133 [.ref (e_z E + x1), .int x2, .int x3, .int x4] h0 (m_X11_member x1 x2 x3 x4 h0) := g_met hl (by decide +kernel) (Nat.le_of_ble_eq_true rfl) (b_X11_member hl _ _ x1 x2 x3 x4 h0)
theorem dX11_totalCost_0 : decode cX11_totalCost 0 = .ok (.iconst 0, 1) := by decide +kernel
theorem dX11_totalCost_1 : decode cX11_totalCost 1 = .ok (.istore_n 1, 1) := by decide +kernel
theorem dX11_totalCost_2 : decode cX11_totalCost 2 = .ok (.iconst 0, 1) := by decide +kernel
theorem dX11_totalCost_3 : decode cX11_totalCost 3 = .ok (.istore_n 2, 1) := by decide +kernel
theorem dX11_totalCost_4 : decode cX11_totalCost 4 = .ok (.iload_n 2, 1) := by decide +kernel
theorem dX11_totalCost_5 : decode cX11_totalCost 5 = .ok (.aload_n 0, 1) := by decide +kernel
theorem dX11_totalCost_6 : decode cX11_totalCost 6 = .ok (.getfield 37, 3) := by decide +kernel
theorem dX11_totalCost_9 : decode cX11_totalCost 9 = .ok (.getfield 131, 3) := by decide +kernel
theorem dX11_totalCost_12 : decode cX11_totalCost 12 = .ok (.getfield 135, 3) := by decide +kernel
theorem dX11_totalCost_15 : decode cX11_totalCost 15 = .ok (.if_icmp .ge 24, 3) := by decide +kernel
theorem dX11_totalCost_18 : decode cX11_totalCost 18 = .ok (.iload_n 1, 1) := by decide +kernel
theorem dX11_totalCost_19 : decode cX11_totalCost 19 = .ok (.aload_n 0, 1) := by decide +kernel
theorem dX11_totalCost_20 : decode cX11_totalCost 20 = .ok (.getfield 37, 3) := by decide +kernel
theorem dX11_totalCost_23 : decode cX11_totalCost 23 = .ok (.getfield 131, 3) := by decide +kernel
theorem dX11_totalCost_26 : decode cX11_totalCost 26 = .ok (.getfield 244, 3) := by decide +kernel
theorem dX11_totalCost_29 : decode cX11_totalCost 29 = .ok (.iload_n 2, 1) := by decide +kernel
theorem dX11_totalCost_30 : decode cX11_totalCost 30 = .ok (.iaload, 1) := by decide +kernel
theorem dX11_totalCost_31 : decode cX11_totalCost 31 = .ok (.iadd, 1) := by decide +kernel
theorem dX11_totalCost_32 : decode cX11_totalCost 32 = .ok (.istore_n 1, 1) := by decide +kernel
theorem dX11_totalCost_33 : decode cX11_totalCost 33 = .ok (.iinc 2 1, 3) := by decide +kernel
theorem dX11_totalCost_36 : decode cX11_totalCost 36 = .ok (.goto (-32), 3) := by decide +kernel
theorem dX11_totalCost_39 : decode cX11_totalCost 39 = .ok (.iload_n 1, 1) := by decide +kernel
theorem dX11_totalCost_40 : decode cX11_totalCost 40 = .ok (.ireturn, 1) := by decide +kernel
abbrev M_X11_totalCost : aM := (yX11_totalCost.cls, cX11_totalCost, 3, (some .int), [], yX11_totalCost.name == "<init>")
abbrev J_X11_totalCost (l : Launch) (E : aE) (n0 m0 : Nat) := GG (fun (v : Int32) => .inl (some (.int v))) l E M_X11_totalCost 0 0 n0 m0
theorem b_X11_totalCost {l : Launch} {E : aE} (hl : l.stackTraces = false) (n0 m0 : Nat) (x1 : Nat) (h0 : aH) : J_X11_totalCost l E n0 m0 0 [(0, .ref (e_z E + x1))] [] h0 (m_X11_totalCost x1 h0) := by
  unfold m_X11_totalCost
  refine g_iconst (pc := 0) dX11_totalCost_0 ci_0 ?_
  refine g_istore_n (pc := 1) (lv' := [(1, .int (0 : Int32)), (0, .ref (e_z E + x1))]) dX11_totalCost_1 (Nat.le_of_ble_eq_true rfl) rfl ?_
  refine g_iconst (pc := 2) dX11_totalCost_2 ci_0 ?_
  refine g_istore_n (pc := 3) (lv' := [(2, .int (0 : Int32)), (1, .int (0 : Int32)), (0, .ref (e_z E + x1))]) dX11_totalCost_3 (Nat.le_of_ble_eq_true rfl) rfl ?_
  refine g_join (fun k => ∀ (x2 : Int32) (h1 : aH), J_X11_totalCost l E n0 m0 39 [(1, .int x2)] [] h1 (k x2 h1)) (fun x2 h1 => ?_) (fun k39 hk39 => ?_)
  · refine g_iload_n (pc := 39) dX11_totalCost_39 0 rfl ?_
    exact g_ret (pc := 40) rfl (isRet_i _) dX11_totalCost_40 rfl
  refine g_lv [2, 1, 0] rfl ?_
  refine g_loop2 (F := (m_X11_totalCost_L4 x1 k39)) (fun x3 x4 => [(0, .ref (e_z E + x1)), (1, .int x3), (2, .int x4)]) (fun r4 hr4 x3 x4 h2 => ?_) _ _ _ _
  unfold m_X11_totalCost_L4
  refine g_iload_n (pc := 4) dX11_totalCost_4 2 rfl ?_
  refine g_aload_n (pc := 5) dX11_totalCost_5 0 rfl ?_
  refine g_getr (pc := 6) cl11 (Nat.le_of_ble_eq_true rfl) fk495 (fun _ _ _ => rfl) dX11_totalCost_6 (fun x5 => ?_)
  refine g_getr (pc := 9) cl10 (Nat.le_of_ble_eq_true rfl) fk379 (fun _ _ _ => rfl) dX11_totalCost_9 (fun x6 => ?_)
  refine g_geti (pc := 12) cl0 (Nat.le_of_ble_eq_true rfl) fk315 (fun _ _ _ => rfl) dX11_totalCost_12 (fun x7 => ?_)
  refine g_icmpge (pc := 15) (tgt := 39) dX11_totalCost_15 rfl ?_ ?_
  · refine g_iload_n (pc := 18) dX11_totalCost_18 1 rfl ?_
    refine g_aload_n (pc := 19) dX11_totalCost_19 0 rfl ?_
    refine g_getr (pc := 20) cl11 (Nat.le_of_ble_eq_true rfl) fk495 (fun _ _ _ => rfl) dX11_totalCost_20 (fun x8 => ?_)
    refine g_getr (pc := 23) cl10 (Nat.le_of_ble_eq_true rfl) fk379 (fun _ _ _ => rfl) dX11_totalCost_23 (fun x9 => ?_)
    refine g_getr (pc := 26) cl0 (Nat.le_of_ble_eq_true rfl) fk317 (fun _ _ _ => rfl) dX11_totalCost_26 (fun x10 => ?_)
    refine g_iload_n (pc := 29) dX11_totalCost_29 2 rfl ?_
    refine g_iald (pc := 30) dX11_totalCost_30 (fun x11 => ?_)
    refine g_iadd (pc := 31) dX11_totalCost_31 ?_
    refine g_topi (fun x12 => ?_)
    refine g_istore_n (pc := 32) (lv' := [(1, .int x12), (0, .ref (e_z E + x1)), (2, .int x4)]) dX11_totalCost_32 (Nat.le_of_ble_eq_true rfl) rfl ?_
    refine g_iincN (pc := 33) dX11_totalCost_33 2 rfl ci_1 (Nat.le_of_ble_eq_true rfl) (fun x13 => ?_)
    refine g_lvr (lv' := [(2, .int x13), (1, .int x12), (0, .ref (e_z E + x1))]) rfl ?_
    refine g_goto (pc := 36) (tgt := 4) dX11_totalCost_36 rfl ?_
    refine g_lv [2, 1, 0] rfl ?_
    exact hr4 x12 x13 h2
  · refine g_lv [1] rfl ?_
    exact hk39 x3 h2
theorem p_X11_totalCost {l : Launch} {E : aE} (hl : l.stackTraces = false) (x1 : Nat) (h0 : aH) : MO (fun (v : Int32) => .inl (some (.int v))) l E yX11_totalCost (.code yX11_totalCost cX11_totalCost 3 (some .int)) 0 0 [.ref (e_z E + x1)] h0 (m_X11_totalCost x1 h0) := g_met hl (by decide +kernel) (Nat.le_of_ble_eq_true rfl) (b_X11_totalCost hl _ _ x1 h0)
theorem dX11_needKind_0 : decode cX11_needKind 0 = .ok (.iload_n 1, 1) := by decide +kernel
theorem dX11_needKind_1 : decode cX11_needKind 1 = .ok (.ifCond .lt 14, 3) := by decide +kernel
theorem dX11_needKind_4 : decode cX11_needKind 4 = .ok (.iload_n 1, 1) := by decide +kernel
theorem dX11_needKind_5 : decode cX11_needKind 5 = .ok (.aload_n 0, 1) := by decide +kernel
theorem dX11_needKind_6 : decode cX11_needKind 6 = .ok (.getfield 25, 3) := by decide +kernel
theorem dX11_needKind_9 : decode cX11_needKind 9 = .ok (.getfield 434, 3) := by decide +kernel
theorem dX11_needKind_12 : decode cX11_needKind 12 = .ok (.if_icmp .lt 14, 3) := by decide +kernel
theorem dX11_needKind_15 : decode cX11_needKind 15 = .ok (.new 85, 3) := by decide +kernel
theorem dX11_needKind_18 : decode cX11_needKind 18 = .ok (.dup, 1) := by decide +kernel
theorem dX11_needKind_19 : decode cX11_needKind 19 = .ok (.ldc_w 437, 3) := by decide +kernel
theorem dX11_needKind_22 : decode cX11_needKind 22 = .ok (.invokespecial 89, 3) := by decide +kernel
theorem dX11_needKind_25 : decode cX11_needKind 25 = .ok (.athrow, 1) := by decide +kernel
theorem dX11_needKind_26 : decode cX11_needKind 26 = .ok (.return_, 1) := by decide +kernel
abbrev M_X11_needKind : aM := (yX11_needKind.cls, cX11_needKind, 2, none, [], yX11_needKind.name == "<init>")
abbrev J_X11_needKind (l : Launch) (E : aE) (n0 m0 : Nat) := GG (eT (fun (_ : Unit) => none)) l E M_X11_needKind 6 90 n0 m0
theorem b_X11_needKind {l : Launch} {E : aE} (hl : l.stackTraces = false) (n0 m0 : Nat) (x1 : Nat) (x2 : Int32) (h0 : aH) : J_X11_needKind l E n0 m0 0 [(0, .ref (e_z E + x1)), (1, .int x2)] [] h0 (m_X11_needKind x1 x2 h0) := by
  unfold m_X11_needKind
  refine g_iload_n (pc := 0) dX11_needKind_0 1 rfl ?_
  refine g_join (fun k => ∀ (h1 : aH), J_X11_needKind l E n0 m0 15 [] [] h1 (k h1)) (fun h1 => ?_) (fun k15 hk15 => ?_)
  · exact g_throwEW (pc := 15) rfl exf_IOB exn tx_20 ⟨tw622, rfl, rfl⟩ exi_IOB (xw_of exw_IOB ⟨tw632, rfl, rfl⟩) dX11_needKind_15 dX11_needKind_18 dX11_needKind_19 dX11_needKind_22 dX11_needKind_25 (Nat.le_of_ble_eq_true rfl) (Nat.le_of_ble_eq_true rfl)
  refine g_iflt (pc := 1) (tgt := 15) dX11_needKind_1 rfl ?_ ?_
  · refine g_lv [] rfl ?_
    exact hk15 h0
  · refine g_iload_n (pc := 4) dX11_needKind_4 1 rfl ?_
    refine g_aload_n (pc := 5) dX11_needKind_5 0 rfl ?_
    refine g_getr (pc := 6) cl11 (Nat.le_of_ble_eq_true rfl) fk493 (fun _ _ _ => rfl) dX11_needKind_6 (fun x3 => ?_)
    refine g_geti (pc := 9) cl8 (Nat.le_of_ble_eq_true rfl) fk270 (fun _ _ _ => rfl) dX11_needKind_9 (fun x4 => ?_)
    refine g_icmplt (pc := 12) (tgt := 26) dX11_needKind_12 rfl ?_ ?_
    · exact g_ret (pc := 26) rfl isRet_v dX11_needKind_26 rfl
    · refine g_lv [] rfl ?_
      exact hk15 h0
theorem p_X11_needKind {l : Launch} {E : aE} (hl : l.stackTraces = false) (x1 : Nat) (x2 : Int32) (h0 : aH) : MO (eT (fun (_ : Unit) => none)) l E yX11_needKind (.code yX11_needKind cX11_needKind 2 none) 6 90 [.ref (e_z E + x1), .int x2] h0 (m_X11_needKind x1 x2 h0) := g_met hl (by decide +kernel) (Nat.le_of_ble_eq_true rfl) (b_X11_needKind hl _ _ x1 x2 h0)
theorem dX11_whyAbsent_0 : decode cX11_whyAbsent 0 = .ok (.aload_n 0, 1) := by decide +kernel
theorem dX11_whyAbsent_1 : decode cX11_whyAbsent 1 = .ok (.iload_n 1, 1) := by decide +kernel
theorem dX11_whyAbsent_2 : decode cX11_whyAbsent 2 = .ok (.invokevirtual 277, 3) := by decide +kernel
theorem dX11_whyAbsent_5 : decode cX11_whyAbsent 5 = .ok (.aload_n 0, 1) := by decide +kernel
theorem dX11_whyAbsent_6 : decode cX11_whyAbsent 6 = .ok (.iload_n 2, 1) := by decide +kernel
theorem dX11_whyAbsent_7 : decode cX11_whyAbsent 7 = .ok (.invokevirtual 153, 3) := by decide +kernel
theorem dX11_whyAbsent_10 : decode cX11_whyAbsent 10 = .ok (.aload_n 0, 1) := by decide +kernel
theorem dX11_whyAbsent_11 : decode cX11_whyAbsent 11 = .ok (.getfield 49, 3) := by decide +kernel
theorem dX11_whyAbsent_14 : decode cX11_whyAbsent 14 = .ok (.aload_n 0, 1) := by decide +kernel
theorem dX11_whyAbsent_15 : decode cX11_whyAbsent 15 = .ok (.getfield 37, 3) := by decide +kernel
theorem dX11_whyAbsent_18 : decode cX11_whyAbsent 18 = .ok (.aload_n 0, 1) := by decide +kernel
theorem dX11_whyAbsent_19 : decode cX11_whyAbsent 19 = .ok (.getfield 25, 3) := by decide +kernel
theorem dX11_whyAbsent_22 : decode cX11_whyAbsent 22 = .ok (.getfield 280, 3) := by decide +kernel
theorem dX11_whyAbsent_25 : decode cX11_whyAbsent 25 = .ok (.iload_n 1, 1) := by decide +kernel
theorem dX11_whyAbsent_26 : decode cX11_whyAbsent 26 = .ok (.aaload, 1) := by decide +kernel
theorem dX11_whyAbsent_27 : decode cX11_whyAbsent 27 = .ok (.invokevirtual 284, 3) := by decide +kernel
theorem dX11_whyAbsent_30 : decode cX11_whyAbsent 30 = .ok (.pop, 1) := by decide +kernel
theorem dX11_whyAbsent_31 : decode cX11_whyAbsent 31 = .ok (.aload_n 0, 1) := by decide +kernel
theorem dX11_whyAbsent_32 : decode cX11_whyAbsent 32 = .ok (.getfield 49, 3) := by decide +kernel
theorem dX11_whyAbsent_35 : decode cX11_whyAbsent 35 = .ok (.getfield 288, 3) := by decide +kernel
theorem dX11_whyAbsent_38 : decode cX11_whyAbsent 38 = .ok (.iload_n 2, 1) := by decide +kernel
theorem dX11_whyAbsent_39 : decode cX11_whyAbsent 39 = .ok (.iaload, 1) := by decide +kernel
theorem dX11_whyAbsent_40 : decode cX11_whyAbsent 40 = .ok (.ireturn, 1) := by decide +kernel
abbrev M_X11_whyAbsent : aM := (yX11_whyAbsent.cls, cX11_whyAbsent, 3, (some .int), [], yX11_whyAbsent.name == "<init>")
abbrev J_X11_whyAbsent (l : Launch) (E : aE) (n0 m0 : Nat) := GG (eT (fun (v : Int32) => some (.int v))) l E M_X11_whyAbsent 7 128 n0 m0
theorem b_X11_whyAbsent {l : Launch} {E : aE} (hl : l.stackTraces = false) (n0 m0 : Nat) (x1 : Nat) (x2 : Int32) (x3 : Int32) (h0 : aH) : J_X11_whyAbsent l E n0 m0 0 [(0, .ref (e_z E + x1)), (1, .int x2), (2, .int x3)] [] h0 (m_X11_whyAbsent x1 x2 x3 h0) := by
  unfold m_X11_whyAbsent
  refine g_aload_n (pc := 0) dX11_whyAbsent_0 0 rfl ?_
  refine g_iload_n (pc := 1) dX11_whyAbsent_1 1 rfl ?_
  refine g_gS (fun hs => ?_)
  refine g_bXv (pc := 2) rfl (c_V cl11 hs (p_X11_needKind hl x1 x2 h0) y_X11_needKind tw1219 dX11_whyAbsent_2 rfl (st := []) rfl (Nat.le_of_ble_eq_true rfl) (Nat.le_of_ble_eq_true rfl) (Nat.le_of_ble_eq_true rfl)) (fun _ h1 => ?_)
  refine g_aload_n (pc := 5) dX11_whyAbsent_5 0 rfl ?_
  refine g_iload_n (pc := 6) dX11_whyAbsent_6 2 rfl ?_
  refine g_gS (fun hs => ?_)
  refine g_bXv (pc := 7) rfl (c_V cl11 hs (p_X11_needPerson hl x1 x3 h1) y_X11_needPerson tw925 dX11_whyAbsent_7 rfl (st := []) rfl (Nat.le_of_ble_eq_true rfl) (Nat.le_of_ble_eq_true rfl) (Nat.le_of_ble_eq_true rfl)) (fun _ h2 => ?_)
  refine g_aload_n (pc := 10) dX11_whyAbsent_10 0 rfl ?_
  refine g_getr (pc := 11) cl11 (Nat.le_of_ble_eq_true rfl) fk497 (fun _ _ _ => rfl) dX11_whyAbsent_11 (fun x4 => ?_)
  refine g_aload_n (pc := 14) dX11_whyAbsent_14 0 rfl ?_
  refine g_getr (pc := 15) cl11 (Nat.le_of_ble_eq_true rfl) fk495 (fun _ _ _ => rfl) dX11_whyAbsent_15 (fun x5 => ?_)
  refine g_aload_n (pc := 18) dX11_whyAbsent_18 0 rfl ?_
  refine g_getr (pc := 19) cl11 (Nat.le_of_ble_eq_true rfl) fk493 (fun _ _ _ => rfl) dX11_whyAbsent_19 (fun x6 => ?_)
  refine g_getr (pc := 22) cl8 (Nat.le_of_ble_eq_true rfl) fk273 (fun _ _ _ => rfl) dX11_whyAbsent_22 (fun x7 => ?_)
  refine g_iload_n (pc := 25) dX11_whyAbsent_25 1 rfl ?_
  refine g_aald (pc := 26) (t := 8) (Nat.le_of_ble_eq_true rfl) (Nat.le_of_ble_eq_true rfl) dX11_whyAbsent_26 (fun x8 => ?_)
  refine g_gS (fun hs => ?_)
  refine g_bRi (pc := 27) (c_VN cl4 hs (p_X4_foresee hl x4 x5 x8 h2) y_X4_foresee tw1224 dX11_whyAbsent_27 rfl (st := []) rfl (Nat.le_of_ble_eq_true rfl) (Nat.le_of_ble_eq_true rfl) (Nat.le_of_ble_eq_true rfl)) (fun x9 h3 => ?_)
  refine g_pop (pc := 30) rfl dX11_whyAbsent_30 ?_
  refine g_aload_n (pc := 31) dX11_whyAbsent_31 0 rfl ?_
  refine g_getr (pc := 32) cl11 (Nat.le_of_ble_eq_true rfl) fk497 (fun _ _ _ => rfl) dX11_whyAbsent_32 (fun x10 => ?_)
  refine g_getr (pc := 35) cl4 (Nat.le_of_ble_eq_true rfl) fk424 (fun _ _ _ => rfl) dX11_whyAbsent_35 (fun x11 => ?_)
  refine g_iload_n (pc := 38) dX11_whyAbsent_38 2 rfl ?_
  refine g_iald (pc := 39) dX11_whyAbsent_39 (fun x12 => ?_)
  exact g_ret (pc := 40) rfl (isRet_i _) dX11_whyAbsent_40 rfl
theorem p_X11_whyAbsent {l : Launch} {E : aE} (hl : l.stackTraces = false) (x1 : Nat) (x2 : Int32) (x3 : Int32) (h0 : aH) : MO (eT (fun (v : Int32) => some (.int v))) l E yX11_whyAbsent (.code yX11_whyAbsent cX11_whyAbsent 3 (some .int)) 7 128 [.ref (e_z E + x1), .int x2, .int x3] h0 (m_X11_whyAbsent x1 x2 x3 h0) := g_met hl (by decide +kernel) (Nat.le_of_ble_eq_true rfl) (b_X11_whyAbsent hl _ _ x1 x2 x3 h0)
theorem dX11_needKindEngine_0 : decode cX11_needKindEngine 0 = .ok (.aload_n 0, 1) := by decide +kernel
theorem dX11_needKindEngine_1 : decode cX11_needKindEngine 1 = .ok (.iload_n 1, 1) := by decide +kernel
theorem dX11_needKindEngine_2 : decode cX11_needKindEngine 2 = .ok (.invokevirtual 277, 3) := by decide +kernel
theorem dX11_needKindEngine_5 : decode cX11_needKindEngine 5 = .ok (.iload_n 2, 1) := by decide +kernel
theorem dX11_needKindEngine_6 : decode cX11_needKindEngine 6 = .ok (.ifCond .lt 19, 3) := by decide +kernel
theorem dX11_needKindEngine_9 : decode cX11_needKindEngine 9 = .ok (.iload_n 2, 1) := by decide +kernel
theorem dX11_needKindEngine_10 : decode cX11_needKindEngine 10 = .ok (.aload_n 0, 1) := by decide +kernel
theorem dX11_needKindEngine_11 : decode cX11_needKindEngine 11 = .ok (.getfield 25, 3) := by decide +kernel
theorem dX11_needKindEngine_14 : decode cX11_needKindEngine 14 = .ok (.getfield 280, 3) := by decide +kernel
theorem dX11_needKindEngine_17 : decode cX11_needKindEngine 17 = .ok (.iload_n 1, 1) := by decide +kernel
theorem dX11_needKindEngine_18 : decode cX11_needKindEngine 18 = .ok (.aaload, 1) := by decide +kernel
theorem dX11_needKindEngine_19 : decode cX11_needKindEngine 19 = .ok (.getfield 439, 3) := by decide +kernel
theorem dX11_needKindEngine_22 : decode cX11_needKindEngine 22 = .ok (.if_icmp .lt 14, 3) := by decide +kernel
theorem dX11_needKindEngine_25 : decode cX11_needKindEngine 25 = .ok (.new 85, 3) := by decide +kernel
theorem dX11_needKindEngine_28 : decode cX11_needKindEngine 28 = .ok (.dup, 1) := by decide +kernel
theorem dX11_needKindEngine_29 : decode cX11_needKindEngine 29 = .ok (.ldc_w 441, 3) := by decide +kernel
theorem dX11_needKindEngine_32 : decode cX11_needKindEngine 32 = .ok (.invokespecial 89, 3) := by decide +kernel
theorem dX11_needKindEngine_35 : decode cX11_needKindEngine 35 = .ok (.athrow, 1) := by decide +kernel
theorem dX11_needKindEngine_36 : decode cX11_needKindEngine 36 = .ok (.return_, 1) := by decide +kernel
abbrev M_X11_needKindEngine : aM := (yX11_needKindEngine.cls, cX11_needKindEngine, 3, none, [], yX11_needKindEngine.name == "<init>")
abbrev J_X11_needKindEngine (l : Launch) (E : aE) (n0 m0 : Nat) := GG (eT (fun (_ : Unit) => none)) l E M_X11_needKindEngine 7 111 n0 m0
theorem b_X11_needKindEngine {l : Launch} {E : aE} (hl : l.stackTraces = false) (n0 m0 : Nat) (x1 : Nat) (x2 : Int32) (x3 : Int32) (h0 : aH) : J_X11_needKindEngine l E n0 m0 0 [(0, .ref (e_z E + x1)), (1, .int x2), (2, .int x3)] [] h0 (m_X11_needKindEngine x1 x2 x3 h0) := by
  unfold m_X11_needKindEngine
  refine g_aload_n (pc := 0) dX11_needKindEngine_0 0 rfl ?_
  refine g_iload_n (pc := 1) dX11_needKindEngine_1 1 rfl ?_
  refine g_gS (fun hs => ?_)
  refine g_bXv (pc := 2) rfl (c_V cl11 hs (p_X11_needKind hl x1 x2 h0) y_X11_needKind tw1219 dX11_needKindEngine_2 rfl (st := []) rfl (Nat.le_of_ble_eq_true rfl) (Nat.le_of_ble_eq_true rfl) (Nat.le_of_ble_eq_true rfl)) (fun _ h1 => ?_)
  refine g_iload_n (pc := 5) dX11_needKindEngine_5 2 rfl ?_
  refine g_join (fun k => ∀ (h2 : aH), J_X11_needKindEngine l E n0 m0 25 [] [] h2 (k h2)) (fun h2 => ?_) (fun k25 hk25 => ?_)
  · exact g_throwEW (pc := 25) rfl exf_IOB exn tx_21 ⟨tw622, rfl, rfl⟩ exi_IOB (xw_of exw_IOB ⟨tw632, rfl, rfl⟩) dX11_needKindEngine_25 dX11_needKindEngine_28 dX11_needKindEngine_29 dX11_needKindEngine_32 dX11_needKindEngine_35 (Nat.le_of_ble_eq_true rfl) (Nat.le_of_ble_eq_true rfl)
  refine g_iflt (pc := 6) (tgt := 25) dX11_needKindEngine_6 rfl ?_ ?_
  · refine g_lv [] rfl ?_
    exact hk25 h1
  · refine g_iload_n (pc := 9) dX11_needKindEngine_9 2 rfl ?_
    refine g_aload_n (pc := 10) dX11_needKindEngine_10 0 rfl ?_
    refine g_getr (pc := 11) cl11 (Nat.le_of_ble_eq_true rfl) fk493 (fun _ _ _ => rfl) dX11_needKindEngine_11 (fun x4 => ?_)
    refine g_getr (pc := 14) cl8 (Nat.le_of_ble_eq_true rfl) fk273 (fun _ _ _ => rfl) dX11_needKindEngine_14 (fun x5 => ?_)
    refine g_iload_n (pc := 17) dX11_needKindEngine_17 1 rfl ?_
    refine g_aald (pc := 18) (t := 8) (Nat.le_of_ble_eq_true rfl) (Nat.le_of_ble_eq_true rfl) dX11_needKindEngine_18 (fun x6 => ?_)
    refine g_geti (pc := 19) cl3 (Nat.le_of_ble_eq_true rfl) fk212 (fun _ _ _ => rfl) dX11_needKindEngine_19 (fun x7 => ?_)
    refine g_icmplt (pc := 22) (tgt := 36) dX11_needKindEngine_22 rfl ?_ ?_
    · exact g_ret (pc := 36) rfl isRet_v dX11_needKindEngine_36 rfl
    · refine g_lv [] rfl ?_
      exact hk25 h1
theorem p_X11_needKindEngine {l : Launch} {E : aE} (hl : l.stackTraces = false) (x1 : Nat) (x2 : Int32) (x3 : Int32) (h0 : aH) : MO (eT (fun (_ : Unit) => none)) l E yX11_needKindEngine (.code yX11_needKindEngine cX11_needKindEngine 3 none) 7 111 [.ref (e_z E + x1), .int x2, .int x3] h0 (m_X11_needKindEngine x1 x2 x3 h0) := g_met hl (by decide +kernel) (Nat.le_of_ble_eq_true rfl) (b_X11_needKindEngine hl _ _ x1 x2 x3 h0)
theorem dX11_whyStays_0 : decode cX11_whyStays 0 = .ok (.aload_n 0, 1) := by decide +kernel
theorem dX11_whyStays_1 : decode cX11_whyStays 1 = .ok (.iload_n 1, 1) := by decide +kernel
theorem dX11_whyStays_2 : decode cX11_whyStays 2 = .ok (.iload_n 2, 1) := by decide +kernel
theorem dX11_whyStays_3 : decode cX11_whyStays 3 = .ok (.invokevirtual 291, 3) := by decide +kernel
theorem dX11_whyStays_6 : decode cX11_whyStays 6 = .ok (.aload_n 0, 1) := by decide +kernel
theorem dX11_whyStays_7 : decode cX11_whyStays 7 = .ok (.getfield 49, 3) := by decide +kernel
theorem dX11_whyStays_10 : decode cX11_whyStays 10 = .ok (.aload_n 0, 1) := by decide +kernel
theorem dX11_whyStays_11 : decode cX11_whyStays 11 = .ok (.getfield 37, 3) := by decide +kernel
theorem dX11_whyStays_14 : decode cX11_whyStays 14 = .ok (.aload_n 0, 1) := by decide +kernel
theorem dX11_whyStays_15 : decode cX11_whyStays 15 = .ok (.getfield 25, 3) := by decide +kernel
theorem dX11_whyStays_18 : decode cX11_whyStays 18 = .ok (.getfield 280, 3) := by decide +kernel
theorem dX11_whyStays_21 : decode cX11_whyStays 21 = .ok (.iload_n 1, 1) := by decide +kernel
theorem dX11_whyStays_22 : decode cX11_whyStays 22 = .ok (.aaload, 1) := by decide +kernel
theorem dX11_whyStays_23 : decode cX11_whyStays 23 = .ok (.invokevirtual 284, 3) := by decide +kernel
theorem dX11_whyStays_26 : decode cX11_whyStays 26 = .ok (.pop, 1) := by decide +kernel
theorem dX11_whyStays_27 : decode cX11_whyStays 27 = .ok (.aload_n 0, 1) := by decide +kernel
theorem dX11_whyStays_28 : decode cX11_whyStays 28 = .ok (.getfield 49, 3) := by decide +kernel
theorem dX11_whyStays_31 : decode cX11_whyStays 31 = .ok (.getfield 294, 3) := by decide +kernel
theorem dX11_whyStays_34 : decode cX11_whyStays 34 = .ok (.iload_n 2, 1) := by decide +kernel
theorem dX11_whyStays_35 : decode cX11_whyStays 35 = .ok (.iaload, 1) := by decide +kernel
theorem dX11_whyStays_36 : decode cX11_whyStays 36 = .ok (.ireturn, 1) := by decide +kernel
abbrev M_X11_whyStays : aM := (yX11_whyStays.cls, cX11_whyStays, 3, (some .int), [], yX11_whyStays.name == "<init>")
abbrev J_X11_whyStays (l : Launch) (E : aE) (n0 m0 : Nat) := GG (eT (fun (v : Int32) => some (.int v))) l E M_X11_whyStays 8 133 n0 m0
theorem b_X11_whyStays {l : Launch} {E : aE} (hl : l.stackTraces = false) (n0 m0 : Nat) (x1 : Nat) (x2 : Int32) (x3 : Int32) (h0 : aH) : J_X11_whyStays l E n0 m0 0 [(0, .ref (e_z E + x1)), (1, .int x2), (2, .int x3)] [] h0 (m_X11_whyStays x1 x2 x3 h0) := by
  unfold m_X11_whyStays
  refine g_aload_n (pc := 0) dX11_whyStays_0 0 rfl ?_
  refine g_iload_n (pc := 1) dX11_whyStays_1 1 rfl ?_
  refine g_iload_n (pc := 2) dX11_whyStays_2 2 rfl ?_
  refine g_gS (fun hs => ?_)
  refine g_bXv (pc := 3) rfl (c_V cl11 hs (p_X11_needKindEngine hl x1 x2 x3 h0) y_X11_needKindEngine tw1276 dX11_whyStays_3 rfl (st := []) rfl (Nat.le_of_ble_eq_true rfl) (Nat.le_of_ble_eq_true rfl) (Nat.le_of_ble_eq_true rfl)) (fun _ h1 => ?_)
  refine g_aload_n (pc := 6) dX11_whyStays_6 0 rfl ?_
  refine g_getr (pc := 7) cl11 (Nat.le_of_ble_eq_true rfl) fk497 (fun _ _ _ => rfl) dX11_whyStays_7 (fun x4 => ?_)
  refine g_aload_n (pc := 10) dX11_whyStays_10 0 rfl ?_
  refine g_getr (pc := 11) cl11 (Nat.le_of_ble_eq_true rfl) fk495 (fun _ _ _ => rfl) dX11_whyStays_11 (fun x5 => ?_)
  refine g_aload_n (pc := 14) dX11_whyStays_14 0 rfl ?_
  refine g_getr (pc := 15) cl11 (Nat.le_of_ble_eq_true rfl) fk493 (fun _ _ _ => rfl) dX11_whyStays_15 (fun x6 => ?_)
  refine g_getr (pc := 18) cl8 (Nat.le_of_ble_eq_true rfl) fk273 (fun _ _ _ => rfl) dX11_whyStays_18 (fun x7 => ?_)
  refine g_iload_n (pc := 21) dX11_whyStays_21 1 rfl ?_
  refine g_aald (pc := 22) (t := 8) (Nat.le_of_ble_eq_true rfl) (Nat.le_of_ble_eq_true rfl) dX11_whyStays_22 (fun x8 => ?_)
  refine g_gS (fun hs => ?_)
  refine g_bRi (pc := 23) (c_VN cl4 hs (p_X4_foresee hl x4 x5 x8 h1) y_X4_foresee tw1224 dX11_whyStays_23 rfl (st := []) rfl (Nat.le_of_ble_eq_true rfl) (Nat.le_of_ble_eq_true rfl) (Nat.le_of_ble_eq_true rfl)) (fun x9 h2 => ?_)
  refine g_pop (pc := 26) rfl dX11_whyStays_26 ?_
  refine g_aload_n (pc := 27) dX11_whyStays_27 0 rfl ?_
  refine g_getr (pc := 28) cl11 (Nat.le_of_ble_eq_true rfl) fk497 (fun _ _ _ => rfl) dX11_whyStays_28 (fun x10 => ?_)
  refine g_getr (pc := 31) cl4 (Nat.le_of_ble_eq_true rfl) fk429 (fun _ _ _ => rfl) dX11_whyStays_31 (fun x11 => ?_)
  refine g_iload_n (pc := 34) dX11_whyStays_34 2 rfl ?_
  refine g_iald (pc := 35) dX11_whyStays_35 (fun x12 => ?_)
  exact g_ret (pc := 36) rfl (isRet_i _) dX11_whyStays_36 rfl
theorem p_X11_whyStays {l : Launch} {E : aE} (hl : l.stackTraces = false) (x1 : Nat) (x2 : Int32) (x3 : Int32) (h0 : aH) : MO (eT (fun (v : Int32) => some (.int v))) l E yX11_whyStays (.code yX11_whyStays cX11_whyStays 3 (some .int)) 8 133 [.ref (e_z E + x1), .int x2, .int x3] h0 (m_X11_whyStays x1 x2 x3 h0) := g_met hl (by decide +kernel) (Nat.le_of_ble_eq_true rfl) (b_X11_whyStays hl _ _ x1 x2 x3 h0)
theorem dX11_needLeaving_0 : decode cX11_needLeaving 0 = .ok (.aload_n 0, 1) := by decide +kernel
theorem dX11_needLeaving_1 : decode cX11_needLeaving 1 = .ok (.getfield 49, 3) := by decide +kernel
theorem dX11_needLeaving_4 : decode cX11_needLeaving 4 = .ok (.getfield 294, 3) := by decide +kernel
theorem dX11_needLeaving_7 : decode cX11_needLeaving 7 = .ok (.iload_n 1, 1) := by decide +kernel
theorem dX11_needLeaving_8 : decode cX11_needLeaving 8 = .ok (.iaload, 1) := by decide +kernel
theorem dX11_needLeaving_9 : decode cX11_needLeaving 9 = .ok (.ifCond .eq 14, 3) := by decide +kernel
theorem dX11_needLeaving_12 : decode cX11_needLeaving 12 = .ok (.new 74, 3) := by decide +kernel
theorem dX11_needLeaving_15 : decode cX11_needLeaving 15 = .ok (.dup, 1) := by decide +kernel
theorem dX11_needLeaving_16 : decode cX11_needLeaving 16 = .ok (.ldc_w 443, 3) := by decide +kernel
theorem dX11_needLeaving_19 : decode cX11_needLeaving 19 = .ok (.invokespecial 78, 3) := by decide +kernel
theorem dX11_needLeaving_22 : decode cX11_needLeaving 22 = .ok (.athrow, 1) := by decide +kernel
theorem dX11_needLeaving_23 : decode cX11_needLeaving 23 = .ok (.return_, 1) := by decide +kernel
abbrev M_X11_needLeaving : aM := (yX11_needLeaving.cls, cX11_needLeaving, 2, none, [], yX11_needLeaving.name == "<init>")
abbrev J_X11_needLeaving (l : Launch) (E : aE) (n0 m0 : Nat) := GG (eT (fun (_ : Unit) => none)) l E M_X11_needLeaving 6 90 n0 m0
theorem b_X11_needLeaving {l : Launch} {E : aE} (hl : l.stackTraces = false) (n0 m0 : Nat) (x1 : Nat) (x2 : Int32) (h0 : aH) : J_X11_needLeaving l E n0 m0 0 [(0, .ref (e_z E + x1)), (1, .int x2)] [] h0 (m_X11_needLeaving x1 x2 h0) := by
  unfold m_X11_needLeaving
  refine g_aload_n (pc := 0) dX11_needLeaving_0 0 rfl ?_
  refine g_getr (pc := 1) cl11 (Nat.le_of_ble_eq_true rfl) fk497 (fun _ _ _ => rfl) dX11_needLeaving_1 (fun x3 => ?_)
  refine g_getr (pc := 4) cl4 (Nat.le_of_ble_eq_true rfl) fk429 (fun _ _ _ => rfl) dX11_needLeaving_4 (fun x4 => ?_)
  refine g_iload_n (pc := 7) dX11_needLeaving_7 1 rfl ?_
  refine g_iald (pc := 8) dX11_needLeaving_8 (fun x5 => ?_)
  refine g_ifeq (pc := 9) (tgt := 23) dX11_needLeaving_9 rfl ?_ ?_
  · exact g_ret (pc := 23) rfl isRet_v dX11_needLeaving_23 rfl
  · exact g_throwEW (pc := 12) rfl exf_ISE exn tx_22 ⟨tw542, rfl, rfl⟩ exi_ISE (xw_of exw_ISE ⟨tw585, rfl, rfl⟩) dX11_needLeaving_12 dX11_needLeaving_15 dX11_needLeaving_16 dX11_needLeaving_19 dX11_needLeaving_22 (Nat.le_of_ble_eq_true rfl) (Nat.le_of_ble_eq_true rfl)
theorem p_X11_needLeaving {l : Launch} {E : aE} (hl : l.stackTraces = false) (x1 : Nat) (x2 : Int32) (h0 : aH) : MO (eT (fun (_ : Unit) => none)) l E yX11_needLeaving (.code yX11_needLeaving cX11_needLeaving 2 none) 6 90 [.ref (e_z E + x1), .int x2] h0 (m_X11_needLeaving x1 x2 h0) := g_met hl (by decide +kernel) (Nat.le_of_ble_eq_true rfl) (b_X11_needLeaving hl _ _ x1 x2 h0)
theorem dX11_departure_0 : decode cX11_departure 0 = .ok (.aload_n 0, 1) := by decide +kernel
theorem dX11_departure_1 : decode cX11_departure 1 = .ok (.iload_n 1, 1) := by decide +kernel
theorem dX11_departure_2 : decode cX11_departure 2 = .ok (.iload_n 2, 1) := by decide +kernel
theorem dX11_departure_3 : decode cX11_departure 3 = .ok (.invokevirtual 291, 3) := by decide +kernel
theorem dX11_departure_6 : decode cX11_departure 6 = .ok (.aload_n 0, 1) := by decide +kernel
theorem dX11_departure_7 : decode cX11_departure 7 = .ok (.getfield 49, 3) := by decide +kernel
theorem dX11_departure_10 : decode cX11_departure 10 = .ok (.aload_n 0, 1) := by decide +kernel
theorem dX11_departure_11 : decode cX11_departure 11 = .ok (.getfield 37, 3) := by decide +kernel
theorem dX11_departure_14 : decode cX11_departure 14 = .ok (.aload_n 0, 1) := by decide +kernel
theorem dX11_departure_15 : decode cX11_departure 15 = .ok (.getfield 25, 3) := by decide +kernel
theorem dX11_departure_18 : decode cX11_departure 18 = .ok (.getfield 280, 3) := by decide +kernel
theorem dX11_departure_21 : decode cX11_departure 21 = .ok (.iload_n 1, 1) := by decide +kernel
theorem dX11_departure_22 : decode cX11_departure 22 = .ok (.aaload, 1) := by decide +kernel
theorem dX11_departure_23 : decode cX11_departure 23 = .ok (.invokevirtual 284, 3) := by decide +kernel
theorem dX11_departure_26 : decode cX11_departure 26 = .ok (.pop, 1) := by decide +kernel
theorem dX11_departure_27 : decode cX11_departure 27 = .ok (.aload_n 0, 1) := by decide +kernel
theorem dX11_departure_28 : decode cX11_departure 28 = .ok (.iload_n 2, 1) := by decide +kernel
theorem dX11_departure_29 : decode cX11_departure 29 = .ok (.invokevirtual 297, 3) := by decide +kernel
theorem dX11_departure_32 : decode cX11_departure 32 = .ok (.aload_n 0, 1) := by decide +kernel
theorem dX11_departure_33 : decode cX11_departure 33 = .ok (.getfield 49, 3) := by decide +kernel
theorem dX11_departure_36 : decode cX11_departure 36 = .ok (.getfield 300, 3) := by decide +kernel
theorem dX11_departure_39 : decode cX11_departure 39 = .ok (.iload_n 2, 1) := by decide +kernel
theorem dX11_departure_40 : decode cX11_departure 40 = .ok (.iaload, 1) := by decide +kernel
theorem dX11_departure_41 : decode cX11_departure 41 = .ok (.ireturn, 1) := by decide +kernel
abbrev M_X11_departure : aM := (yX11_departure.cls, cX11_departure, 3, (some .int), [], yX11_departure.name == "<init>")
abbrev J_X11_departure (l : Launch) (E : aE) (n0 m0 : Nat) := GG (eT (fun (v : Int32) => some (.int v))) l E M_X11_departure 8 133 n0 m0
theorem b_X11_departure {l : Launch} {E : aE} (hl : l.stackTraces = false) (n0 m0 : Nat) (x1 : Nat) (x2 : Int32) (x3 : Int32) (h0 : aH) : J_X11_departure l E n0 m0 0 [(0, .ref (e_z E + x1)), (1, .int x2), (2, .int x3)] [] h0 (m_X11_departure x1 x2 x3 h0) := by
  unfold m_X11_departure
  refine g_aload_n (pc := 0) dX11_departure_0 0 rfl ?_
  refine g_iload_n (pc := 1) dX11_departure_1 1 rfl ?_
  refine g_iload_n (pc := 2) dX11_departure_2 2 rfl ?_
  refine g_gS (fun hs => ?_)
  refine g_bXv (pc := 3) rfl (c_V cl11 hs (p_X11_needKindEngine hl x1 x2 x3 h0) y_X11_needKindEngine tw1276 dX11_departure_3 rfl (st := []) rfl (Nat.le_of_ble_eq_true rfl) (Nat.le_of_ble_eq_true rfl) (Nat.le_of_ble_eq_true rfl)) (fun _ h1 => ?_)
  refine g_aload_n (pc := 6) dX11_departure_6 0 rfl ?_
  refine g_getr (pc := 7) cl11 (Nat.le_of_ble_eq_true rfl) fk497 (fun _ _ _ => rfl) dX11_departure_7 (fun x4 => ?_)
  refine g_aload_n (pc := 10) dX11_departure_10 0 rfl ?_
  refine g_getr (pc := 11) cl11 (Nat.le_of_ble_eq_true rfl) fk495 (fun _ _ _ => rfl) dX11_departure_11 (fun x5 => ?_)
  refine g_aload_n (pc := 14) dX11_departure_14 0 rfl ?_
  refine g_getr (pc := 15) cl11 (Nat.le_of_ble_eq_true rfl) fk493 (fun _ _ _ => rfl) dX11_departure_15 (fun x6 => ?_)
  refine g_getr (pc := 18) cl8 (Nat.le_of_ble_eq_true rfl) fk273 (fun _ _ _ => rfl) dX11_departure_18 (fun x7 => ?_)
  refine g_iload_n (pc := 21) dX11_departure_21 1 rfl ?_
  refine g_aald (pc := 22) (t := 8) (Nat.le_of_ble_eq_true rfl) (Nat.le_of_ble_eq_true rfl) dX11_departure_22 (fun x8 => ?_)
  refine g_gS (fun hs => ?_)
  refine g_bRi (pc := 23) (c_VN cl4 hs (p_X4_foresee hl x4 x5 x8 h1) y_X4_foresee tw1224 dX11_departure_23 rfl (st := []) rfl (Nat.le_of_ble_eq_true rfl) (Nat.le_of_ble_eq_true rfl) (Nat.le_of_ble_eq_true rfl)) (fun x9 h2 => ?_)
  refine g_pop (pc := 26) rfl dX11_departure_26 ?_
  refine g_aload_n (pc := 27) dX11_departure_27 0 rfl ?_
  refine g_iload_n (pc := 28) dX11_departure_28 2 rfl ?_
  refine g_gS (fun hs => ?_)
  refine g_bXv (pc := 29) rfl (c_V cl11 hs (p_X11_needLeaving hl x1 x3 h2) y_X11_needLeaving tw1288 dX11_departure_29 rfl (st := []) rfl (Nat.le_of_ble_eq_true rfl) (Nat.le_of_ble_eq_true rfl) (Nat.le_of_ble_eq_true rfl)) (fun _ h3 => ?_)
  refine g_aload_n (pc := 32) dX11_departure_32 0 rfl ?_
  refine g_getr (pc := 33) cl11 (Nat.le_of_ble_eq_true rfl) fk497 (fun _ _ _ => rfl) dX11_departure_33 (fun x10 => ?_)
  refine g_getr (pc := 36) cl4 (Nat.le_of_ble_eq_true rfl) fk435 (fun _ _ _ => rfl) dX11_departure_36 (fun x11 => ?_)
  refine g_iload_n (pc := 39) dX11_departure_39 2 rfl ?_
  refine g_iald (pc := 40) dX11_departure_40 (fun x12 => ?_)
  exact g_ret (pc := 41) rfl (isRet_i _) dX11_departure_41 rfl
theorem p_X11_departure {l : Launch} {E : aE} (hl : l.stackTraces = false) (x1 : Nat) (x2 : Int32) (x3 : Int32) (h0 : aH) : MO (eT (fun (v : Int32) => some (.int v))) l E yX11_departure (.code yX11_departure cX11_departure 3 (some .int)) 8 133 [.ref (e_z E + x1), .int x2, .int x3] h0 (m_X11_departure x1 x2 x3 h0) := g_met hl (by decide +kernel) (Nat.le_of_ble_eq_true rfl) (b_X11_departure hl _ _ x1 x2 x3 h0)
theorem dX11_mans_0 : decode cX11_mans 0 = .ok (.aload_n 0, 1) := by decide +kernel
theorem dX11_mans_1 : decode cX11_mans 1 = .ok (.iload_n 1, 1) := by decide +kernel
theorem dX11_mans_2 : decode cX11_mans 2 = .ok (.iload_n 2, 1) := by decide +kernel
theorem dX11_mans_3 : decode cX11_mans 3 = .ok (.invokevirtual 291, 3) := by decide +kernel
theorem dX11_mans_6 : decode cX11_mans 6 = .ok (.aload_n 0, 1) := by decide +kernel
theorem dX11_mans_7 : decode cX11_mans 7 = .ok (.getfield 25, 3) := by decide +kernel
theorem dX11_mans_10 : decode cX11_mans 10 = .ok (.getfield 303, 3) := by decide +kernel
theorem dX11_mans_13 : decode cX11_mans 13 = .ok (.aload_n 0, 1) := by decide +kernel
theorem dX11_mans_14 : decode cX11_mans 14 = .ok (.getfield 25, 3) := by decide +kernel
theorem dX11_mans_17 : decode cX11_mans 17 = .ok (.getfield 280, 3) := by decide +kernel
theorem dX11_mans_20 : decode cX11_mans 20 = .ok (.iload_n 1, 1) := by decide +kernel
theorem dX11_mans_21 : decode cX11_mans 21 = .ok (.aaload, 1) := by decide +kernel
theorem dX11_mans_22 : decode cX11_mans 22 = .ok (.getfield 306, 3) := by decide +kernel
theorem dX11_mans_25 : decode cX11_mans 25 = .ok (.iload_n 2, 1) := by decide +kernel
theorem dX11_mans_26 : decode cX11_mans 26 = .ok (.iaload, 1) := by decide +kernel
theorem dX11_mans_27 : decode cX11_mans 27 = .ok (.aaload, 1) := by decide +kernel
theorem dX11_mans_28 : decode cX11_mans 28 = .ok (.astore 4, 2) := by decide +kernel
theorem dX11_mans_30 : decode cX11_mans 30 = .ok (.iload_n 3, 1) := by decide +kernel
theorem dX11_mans_31 : decode cX11_mans 31 = .ok (.ifCond .lt 12, 3) := by decide +kernel
theorem dX11_mans_34 : decode cX11_mans 34 = .ok (.iload_n 3, 1) := by decide +kernel
theorem dX11_mans_35 : decode cX11_mans 35 = .ok (.aload 4, 2) := by decide +kernel
theorem dX11_mans_37 : decode cX11_mans 37 = .ok (.getfield 311, 3) := by decide +kernel
theorem dX11_mans_40 : decode cX11_mans 40 = .ok (.if_icmp .lt 14, 3) := by decide +kernel
theorem dX11_mans_43 : decode cX11_mans 43 = .ok (.new 85, 3) := by decide +kernel
theorem dX11_mans_46 : decode cX11_mans 46 = .ok (.dup, 1) := by decide +kernel
theorem dX11_mans_47 : decode cX11_mans 47 = .ok (.ldc_w 316, 3) := by decide +kernel
theorem dX11_mans_50 : decode cX11_mans 50 = .ok (.invokespecial 89, 3) := by decide +kernel
theorem dX11_mans_53 : decode cX11_mans 53 = .ok (.athrow, 1) := by decide +kernel
theorem dX11_mans_54 : decode cX11_mans 54 = .ok (.aload_n 0, 1) := by decide +kernel
theorem dX11_mans_55 : decode cX11_mans 55 = .ok (.getfield 49, 3) := by decide +kernel
theorem dX11_mans_58 : decode cX11_mans 58 = .ok (.aload_n 0, 1) := by decide +kernel
theorem dX11_mans_59 : decode cX11_mans 59 = .ok (.getfield 37, 3) := by decide +kernel
theorem dX11_mans_62 : decode cX11_mans 62 = .ok (.aload_n 0, 1) := by decide +kernel
theorem dX11_mans_63 : decode cX11_mans 63 = .ok (.getfield 25, 3) := by decide +kernel
theorem dX11_mans_66 : decode cX11_mans 66 = .ok (.getfield 280, 3) := by decide +kernel
theorem dX11_mans_69 : decode cX11_mans 69 = .ok (.iload_n 1, 1) := by decide +kernel
theorem dX11_mans_70 : decode cX11_mans 70 = .ok (.aaload, 1) := by decide +kernel
theorem dX11_mans_71 : decode cX11_mans 71 = .ok (.invokevirtual 284, 3) := by decide +kernel
theorem dX11_mans_74 : decode cX11_mans 74 = .ok (.pop, 1) := by decide +kernel
theorem dX11_mans_75 : decode cX11_mans 75 = .ok (.aload_n 0, 1) := by decide +kernel
theorem dX11_mans_76 : decode cX11_mans 76 = .ok (.iload_n 2, 1) := by decide +kernel
theorem dX11_mans_77 : decode cX11_mans 77 = .ok (.invokevirtual 297, 3) := by decide +kernel
theorem dX11_mans_80 : decode cX11_mans 80 = .ok (.aload_n 0, 1) := by decide +kernel
theorem dX11_mans_81 : decode cX11_mans 81 = .ok (.getfield 49, 3) := by decide +kernel
theorem dX11_mans_84 : decode cX11_mans 84 = .ok (.aload 4, 2) := by decide +kernel
theorem dX11_mans_86 : decode cX11_mans 86 = .ok (.aload_n 0, 1) := by decide +kernel
theorem dX11_mans_87 : decode cX11_mans 87 = .ok (.getfield 49, 3) := by decide +kernel
theorem dX11_mans_90 : decode cX11_mans 90 = .ok (.getfield 318, 3) := by decide +kernel
theorem dX11_mans_93 : decode cX11_mans 93 = .ok (.iload_n 2, 1) := by decide +kernel
theorem dX11_mans_94 : decode cX11_mans 94 = .ok (.iaload, 1) := by decide +kernel
theorem dX11_mans_95 : decode cX11_mans 95 = .ok (.iload_n 3, 1) := by decide +kernel
theorem dX11_mans_96 : decode cX11_mans 96 = .ok (.invokevirtual 319, 3) := by decide +kernel
theorem dX11_mans_99 : decode cX11_mans 99 = .ok (.ireturn, 1) := by decide +kernel
abbrev M_X11_mans : aM := (yX11_mans.cls, cX11_mans, 5, (some .int), [], yX11_mans.name == "<init>")
abbrev J_X11_mans (l : Launch) (E : aE) (n0 m0 : Nat) := GG (eT (fun (v : Int32) => some (.int v))) l E M_X11_mans 8 133 n0 m0
theorem b_X11_mans {l : Launch} {E : aE} (hl : l.stackTraces = false) (n0 m0 : Nat) (x1 : Nat) (x2 : Int32) (x3 : Int32) (x4 : Int32) (h0 : aH) : J_X11_mans l E n0 m0 0 [(0, .ref (e_z E + x1)), (1, .int x2), (2, .int x3), (3, .int x4)] [] h0 (m_X11_mans x1 x2 x3 x4 h0) := by
  unfold m_X11_mans
  refine g_aload_n (pc := 0) dX11_mans_0 0 rfl ?_
  refine g_iload_n (pc := 1) dX11_mans_1 1 rfl ?_
  refine g_iload_n (pc := 2) dX11_mans_2 2 rfl ?_
  refine g_gS (fun hs => ?_)
  refine g_bXv (pc := 3) rfl (c_V cl11 hs (p_X11_needKindEngine hl x1 x2 x3 h0) y_X11_needKindEngine tw1276 dX11_mans_3 rfl (st := []) rfl (Nat.le_of_ble_eq_true rfl) (Nat.le_of_ble_eq_true rfl) (Nat.le_of_ble_eq_true rfl)) (fun _ h1 => ?_)
  refine g_aload_n (pc := 6) dX11_mans_6 0 rfl ?_
  refine g_getr (pc := 7) cl11 (Nat.le_of_ble_eq_true rfl) fk493 (fun _ _ _ => rfl) dX11_mans_7 (fun x5 => ?_)
  refine g_getr (pc := 10) cl8 (Nat.le_of_ble_eq_true rfl) fk267 (fun _ _ _ => rfl) dX11_mans_10 (fun x6 => ?_)
  refine g_aload_n (pc := 13) dX11_mans_13 0 rfl ?_
  refine g_getr (pc := 14) cl11 (Nat.le_of_ble_eq_true rfl) fk493 (fun _ _ _ => rfl) dX11_mans_14 (fun x7 => ?_)
  refine g_getr (pc := 17) cl8 (Nat.le_of_ble_eq_true rfl) fk273 (fun _ _ _ => rfl) dX11_mans_17 (fun x8 => ?_)
  refine g_iload_n (pc := 20) dX11_mans_20 1 rfl ?_
  refine g_aald (pc := 21) (t := 8) (Nat.le_of_ble_eq_true rfl) (Nat.le_of_ble_eq_true rfl) dX11_mans_21 (fun x9 => ?_)
  refine g_getr (pc := 22) cl3 (Nat.le_of_ble_eq_true rfl) fk216 (fun _ _ _ => rfl) dX11_mans_22 (fun x10 => ?_)
  refine g_iload_n (pc := 25) dX11_mans_25 2 rfl ?_
  refine g_iald (pc := 26) dX11_mans_26 (fun x11 => ?_)
  refine g_aald (pc := 27) (t := 7) (Nat.le_of_ble_eq_true rfl) (Nat.le_of_ble_eq_true rfl) dX11_mans_27 (fun x12 => ?_)
  refine g_astore (pc := 28) (lv' := [(4, .ref (e_z E + x12)), (0, .ref (e_z E + x1)), (1, .int x2), (2, .int x3), (3, .int x4)]) dX11_mans_28 (Nat.le_of_ble_eq_true rfl) rfl ?_
  refine g_iload_n (pc := 30) dX11_mans_30 4 rfl ?_
  refine g_join (fun k => ∀ (h2 : aH), J_X11_mans l E n0 m0 43 [] [] h2 (k h2)) (fun h2 => ?_) (fun k43 hk43 => ?_)
  · exact g_throwEW (pc := 43) rfl exf_IOB exn tx_23 ⟨tw622, rfl, rfl⟩ exi_IOB (xw_of exw_IOB ⟨tw632, rfl, rfl⟩) dX11_mans_43 dX11_mans_46 dX11_mans_47 dX11_mans_50 dX11_mans_53 (Nat.le_of_ble_eq_true rfl) (Nat.le_of_ble_eq_true rfl)
  refine g_iflt (pc := 31) (tgt := 43) dX11_mans_31 rfl ?_ ?_
  · refine g_lv [] rfl ?_
    exact hk43 h1
  · refine g_iload_n (pc := 34) dX11_mans_34 4 rfl ?_
    refine g_aload (pc := 35) dX11_mans_35 0 rfl ?_
    refine g_geti (pc := 37) cl1 (Nat.le_of_ble_eq_true rfl) fk175 (fun _ _ _ => rfl) dX11_mans_37 (fun x13 => ?_)
    refine g_icmplt (pc := 40) (tgt := 54) dX11_mans_40 rfl ?_ ?_
    · refine g_aload_n (pc := 54) dX11_mans_54 1 rfl ?_
      refine g_getr (pc := 55) cl11 (Nat.le_of_ble_eq_true rfl) fk497 (fun _ _ _ => rfl) dX11_mans_55 (fun x14 => ?_)
      refine g_aload_n (pc := 58) dX11_mans_58 1 rfl ?_
      refine g_getr (pc := 59) cl11 (Nat.le_of_ble_eq_true rfl) fk495 (fun _ _ _ => rfl) dX11_mans_59 (fun x15 => ?_)
      refine g_aload_n (pc := 62) dX11_mans_62 1 rfl ?_
      refine g_getr (pc := 63) cl11 (Nat.le_of_ble_eq_true rfl) fk493 (fun _ _ _ => rfl) dX11_mans_63 (fun x16 => ?_)
      refine g_getr (pc := 66) cl8 (Nat.le_of_ble_eq_true rfl) fk273 (fun _ _ _ => rfl) dX11_mans_66 (fun x17 => ?_)
      refine g_iload_n (pc := 69) dX11_mans_69 2 rfl ?_
      refine g_aald (pc := 70) (t := 8) (Nat.le_of_ble_eq_true rfl) (Nat.le_of_ble_eq_true rfl) dX11_mans_70 (fun x18 => ?_)
      refine g_gS (fun hs => ?_)
      refine g_bRi (pc := 71) (c_VN cl4 hs (p_X4_foresee hl x14 x15 x18 h1) y_X4_foresee tw1224 dX11_mans_71 rfl (st := []) rfl (Nat.le_of_ble_eq_true rfl) (Nat.le_of_ble_eq_true rfl) (Nat.le_of_ble_eq_true rfl)) (fun x19 h3 => ?_)
      refine g_pop (pc := 74) rfl dX11_mans_74 ?_
      refine g_aload_n (pc := 75) dX11_mans_75 1 rfl ?_
      refine g_iload_n (pc := 76) dX11_mans_76 3 rfl ?_
      refine g_gS (fun hs => ?_)
      refine g_bXv (pc := 77) rfl (c_V cl11 hs (p_X11_needLeaving hl x1 x3 h3) y_X11_needLeaving tw1288 dX11_mans_77 rfl (st := []) rfl (Nat.le_of_ble_eq_true rfl) (Nat.le_of_ble_eq_true rfl) (Nat.le_of_ble_eq_true rfl)) (fun _ h4 => ?_)
      refine g_aload_n (pc := 80) dX11_mans_80 1 rfl ?_
      refine g_getr (pc := 81) cl11 (Nat.le_of_ble_eq_true rfl) fk497 (fun _ _ _ => rfl) dX11_mans_81 (fun x20 => ?_)
      refine g_aload (pc := 84) dX11_mans_84 0 rfl ?_
      refine g_aload_n (pc := 86) dX11_mans_86 1 rfl ?_
      refine g_getr (pc := 87) cl11 (Nat.le_of_ble_eq_true rfl) fk497 (fun _ _ _ => rfl) dX11_mans_87 (fun x21 => ?_)
      refine g_getr (pc := 90) cl4 (Nat.le_of_ble_eq_true rfl) fk433 (fun _ _ _ => rfl) dX11_mans_90 (fun x22 => ?_)
      refine g_iload_n (pc := 93) dX11_mans_93 3 rfl ?_
      refine g_iald (pc := 94) dX11_mans_94 (fun x23 => ?_)
      refine g_iload_n (pc := 95) dX11_mans_95 4 rfl ?_
      refine g_gS (fun hs => ?_)
      refine g_bRi (pc := 96) (c_VN cl4 hs (p_X4_personAt hl x20 x12 x23 x4 h4) y_X4_personAt tw1301 dX11_mans_96 rfl (st := []) rfl (Nat.le_of_ble_eq_true rfl) (Nat.le_of_ble_eq_true rfl) (Nat.le_of_ble_eq_true rfl)) (fun x24 h5 => ?_)
      exact g_ret (pc := 99) rfl (isRet_i _) dX11_mans_99 rfl
    · refine g_lv [] rfl ?_
      exact hk43 h1
theorem p_X11_mans {l : Launch} {E : aE} (hl : l.stackTraces = false) (x1 : Nat) (x2 : Int32) (x3 : Int32) (x4 : Int32) (h0 : aH) : MO (eT (fun (v : Int32) => some (.int v))) l E yX11_mans (.code yX11_mans cX11_mans 5 (some .int)) 8 133 [.ref (e_z E + x1), .int x2, .int x3, .int x4] h0 (m_X11_mans x1 x2 x3 x4 h0) := g_met hl (by decide +kernel) (Nat.le_of_ble_eq_true rfl) (b_X11_mans hl _ _ x1 x2 x3 x4 h0)
theorem dX11_manned_0 : decode cX11_manned 0 = .ok (.aload_n 0, 1) := by decide +kernel
theorem dX11_manned_1 : decode cX11_manned 1 = .ok (.iload_n 1, 1) := by decide +kernel
theorem dX11_manned_2 : decode cX11_manned 2 = .ok (.iload_n 2, 1) := by decide +kernel
theorem dX11_manned_3 : decode cX11_manned 3 = .ok (.invokevirtual 291, 3) := by decide +kernel
theorem dX11_manned_6 : decode cX11_manned 6 = .ok (.aload_n 0, 1) := by decide +kernel
theorem dX11_manned_7 : decode cX11_manned 7 = .ok (.getfield 49, 3) := by decide +kernel
theorem dX11_manned_10 : decode cX11_manned 10 = .ok (.aload_n 0, 1) := by decide +kernel
theorem dX11_manned_11 : decode cX11_manned 11 = .ok (.getfield 37, 3) := by decide +kernel
theorem dX11_manned_14 : decode cX11_manned 14 = .ok (.aload_n 0, 1) := by decide +kernel
theorem dX11_manned_15 : decode cX11_manned 15 = .ok (.getfield 25, 3) := by decide +kernel
theorem dX11_manned_18 : decode cX11_manned 18 = .ok (.getfield 280, 3) := by decide +kernel
theorem dX11_manned_21 : decode cX11_manned 21 = .ok (.iload_n 1, 1) := by decide +kernel
theorem dX11_manned_22 : decode cX11_manned 22 = .ok (.aaload, 1) := by decide +kernel
theorem dX11_manned_23 : decode cX11_manned 23 = .ok (.invokevirtual 284, 3) := by decide +kernel
theorem dX11_manned_26 : decode cX11_manned 26 = .ok (.pop, 1) := by decide +kernel
theorem dX11_manned_27 : decode cX11_manned 27 = .ok (.aload_n 0, 1) := by decide +kernel
theorem dX11_manned_28 : decode cX11_manned 28 = .ok (.getfield 49, 3) := by decide +kernel
theorem dX11_manned_31 : decode cX11_manned 31 = .ok (.getfield 323, 3) := by decide +kernel
theorem dX11_manned_34 : decode cX11_manned 34 = .ok (.iload_n 2, 1) := by decide +kernel
theorem dX11_manned_35 : decode cX11_manned 35 = .ok (.iaload, 1) := by decide +kernel
theorem dX11_manned_36 : decode cX11_manned 36 = .ok (.ireturn, 1) := by decide +kernel
abbrev M_X11_manned : aM := (yX11_manned.cls, cX11_manned, 3, (some .int), [], yX11_manned.name == "<init>")
abbrev J_X11_manned (l : Launch) (E : aE) (n0 m0 : Nat) := GG (eT (fun (v : Int32) => some (.int v))) l E M_X11_manned 8 133 n0 m0
theorem b_X11_manned {l : Launch} {E : aE} (hl : l.stackTraces = false) (n0 m0 : Nat) (x1 : Nat) (x2 : Int32) (x3 : Int32) (h0 : aH) : J_X11_manned l E n0 m0 0 [(0, .ref (e_z E + x1)), (1, .int x2), (2, .int x3)] [] h0 (m_X11_manned x1 x2 x3 h0) := by
  unfold m_X11_manned
  refine g_aload_n (pc := 0) dX11_manned_0 0 rfl ?_
  refine g_iload_n (pc := 1) dX11_manned_1 1 rfl ?_
  refine g_iload_n (pc := 2) dX11_manned_2 2 rfl ?_
  refine g_gS (fun hs => ?_)
  refine g_bXv (pc := 3) rfl (c_V cl11 hs (p_X11_needKindEngine hl x1 x2 x3 h0) y_X11_needKindEngine tw1276 dX11_manned_3 rfl (st := []) rfl (Nat.le_of_ble_eq_true rfl) (Nat.le_of_ble_eq_true rfl) (Nat.le_of_ble_eq_true rfl)) (fun _ h1 => ?_)
  refine g_aload_n (pc := 6) dX11_manned_6 0 rfl ?_
  refine g_getr (pc := 7) cl11 (Nat.le_of_ble_eq_true rfl) fk497 (fun _ _ _ => rfl) dX11_manned_7 (fun x4 => ?_)
  refine g_aload_n (pc := 10) dX11_manned_10 0 rfl ?_
  refine g_getr (pc := 11) cl11 (Nat.le_of_ble_eq_true rfl) fk495 (fun _ _ _ => rfl) dX11_manned_11 (fun x5 => ?_)
  refine g_aload_n (pc := 14) dX11_manned_14 0 rfl ?_
  refine g_getr (pc := 15) cl11 (Nat.le_of_ble_eq_true rfl) fk493 (fun _ _ _ => rfl) dX11_manned_15 (fun x6 => ?_)
  refine g_getr (pc := 18) cl8 (Nat.le_of_ble_eq_true rfl) fk273 (fun _ _ _ => rfl) dX11_manned_18 (fun x7 => ?_)
  refine g_iload_n (pc := 21) dX11_manned_21 1 rfl ?_
  refine g_aald (pc := 22) (t := 8) (Nat.le_of_ble_eq_true rfl) (Nat.le_of_ble_eq_true rfl) dX11_manned_22 (fun x8 => ?_)
  refine g_gS (fun hs => ?_)
  refine g_bRi (pc := 23) (c_VN cl4 hs (p_X4_foresee hl x4 x5 x8 h1) y_X4_foresee tw1224 dX11_manned_23 rfl (st := []) rfl (Nat.le_of_ble_eq_true rfl) (Nat.le_of_ble_eq_true rfl) (Nat.le_of_ble_eq_true rfl)) (fun x9 h2 => ?_)
  refine g_pop (pc := 26) rfl dX11_manned_26 ?_
  refine g_aload_n (pc := 27) dX11_manned_27 0 rfl ?_
  refine g_getr (pc := 28) cl11 (Nat.le_of_ble_eq_true rfl) fk497 (fun _ _ _ => rfl) dX11_manned_28 (fun x10 => ?_)
  refine g_getr (pc := 31) cl4 (Nat.le_of_ble_eq_true rfl) fk431 (fun _ _ _ => rfl) dX11_manned_31 (fun x11 => ?_)
  refine g_iload_n (pc := 34) dX11_manned_34 2 rfl ?_
  refine g_iald (pc := 35) dX11_manned_35 (fun x12 => ?_)
  exact g_ret (pc := 36) rfl (isRet_i _) dX11_manned_36 rfl
theorem p_X11_manned {l : Launch} {E : aE} (hl : l.stackTraces = false) (x1 : Nat) (x2 : Int32) (x3 : Int32) (h0 : aH) : MO (eT (fun (v : Int32) => some (.int v))) l E yX11_manned (.code yX11_manned cX11_manned 3 (some .int)) 8 133 [.ref (e_z E + x1), .int x2, .int x3] h0 (m_X11_manned x1 x2 x3 h0) := g_met hl (by decide +kernel) (Nat.le_of_ble_eq_true rfl) (b_X11_manned hl _ _ x1 x2 x3 h0)
theorem dX11_wouldAnswer_0 : decode cX11_wouldAnswer 0 = .ok (.aload_n 0, 1) := by decide +kernel
theorem dX11_wouldAnswer_1 : decode cX11_wouldAnswer 1 = .ok (.iload_n 1, 1) := by decide +kernel
theorem dX11_wouldAnswer_2 : decode cX11_wouldAnswer 2 = .ok (.invokevirtual 277, 3) := by decide +kernel
theorem dX11_wouldAnswer_5 : decode cX11_wouldAnswer 5 = .ok (.aload_n 0, 1) := by decide +kernel
theorem dX11_wouldAnswer_6 : decode cX11_wouldAnswer 6 = .ok (.getfield 49, 3) := by decide +kernel
theorem dX11_wouldAnswer_9 : decode cX11_wouldAnswer 9 = .ok (.aload_n 0, 1) := by decide +kernel
theorem dX11_wouldAnswer_10 : decode cX11_wouldAnswer 10 = .ok (.getfield 37, 3) := by decide +kernel
theorem dX11_wouldAnswer_13 : decode cX11_wouldAnswer 13 = .ok (.aload_n 0, 1) := by decide +kernel
theorem dX11_wouldAnswer_14 : decode cX11_wouldAnswer 14 = .ok (.getfield 25, 3) := by decide +kernel
theorem dX11_wouldAnswer_17 : decode cX11_wouldAnswer 17 = .ok (.getfield 280, 3) := by decide +kernel
theorem dX11_wouldAnswer_20 : decode cX11_wouldAnswer 20 = .ok (.iload_n 1, 1) := by decide +kernel
theorem dX11_wouldAnswer_21 : decode cX11_wouldAnswer 21 = .ok (.aaload, 1) := by decide +kernel
theorem dX11_wouldAnswer_22 : decode cX11_wouldAnswer 22 = .ok (.invokevirtual 284, 3) := by decide +kernel
theorem dX11_wouldAnswer_25 : decode cX11_wouldAnswer 25 = .ok (.ireturn, 1) := by decide +kernel
abbrev M_X11_wouldAnswer : aM := (yX11_wouldAnswer.cls, cX11_wouldAnswer, 2, (some .boolean), [], yX11_wouldAnswer.name == "<init>")
abbrev J_X11_wouldAnswer (l : Launch) (E : aE) (n0 m0 : Nat) := GG (eT (fun (v : Int32) => some (.int v))) l E M_X11_wouldAnswer 7 128 n0 m0
theorem b_X11_wouldAnswer {l : Launch} {E : aE} (hl : l.stackTraces = false) (n0 m0 : Nat) (x1 : Nat) (x2 : Int32) (h0 : aH) : J_X11_wouldAnswer l E n0 m0 0 [(0, .ref (e_z E + x1)), (1, .int x2)] [] h0 (m_X11_wouldAnswer x1 x2 h0) := by
  unfold m_X11_wouldAnswer
  refine g_aload_n (pc := 0) dX11_wouldAnswer_0 0 rfl ?_
  refine g_iload_n (pc := 1) dX11_wouldAnswer_1 1 rfl ?_
  refine g_gS (fun hs => ?_)
  refine g_bXv (pc := 2) rfl (c_V cl11 hs (p_X11_needKind hl x1 x2 h0) y_X11_needKind tw1219 dX11_wouldAnswer_2 rfl (st := []) rfl (Nat.le_of_ble_eq_true rfl) (Nat.le_of_ble_eq_true rfl) (Nat.le_of_ble_eq_true rfl)) (fun _ h1 => ?_)
  refine g_aload_n (pc := 5) dX11_wouldAnswer_5 0 rfl ?_
  refine g_getr (pc := 6) cl11 (Nat.le_of_ble_eq_true rfl) fk497 (fun _ _ _ => rfl) dX11_wouldAnswer_6 (fun x3 => ?_)
  refine g_aload_n (pc := 9) dX11_wouldAnswer_9 0 rfl ?_
  refine g_getr (pc := 10) cl11 (Nat.le_of_ble_eq_true rfl) fk495 (fun _ _ _ => rfl) dX11_wouldAnswer_10 (fun x4 => ?_)
  refine g_aload_n (pc := 13) dX11_wouldAnswer_13 0 rfl ?_
  refine g_getr (pc := 14) cl11 (Nat.le_of_ble_eq_true rfl) fk493 (fun _ _ _ => rfl) dX11_wouldAnswer_14 (fun x5 => ?_)
  refine g_getr (pc := 17) cl8 (Nat.le_of_ble_eq_true rfl) fk273 (fun _ _ _ => rfl) dX11_wouldAnswer_17 (fun x6 => ?_)
  refine g_iload_n (pc := 20) dX11_wouldAnswer_20 1 rfl ?_
  refine g_aald (pc := 21) (t := 8) (Nat.le_of_ble_eq_true rfl) (Nat.le_of_ble_eq_true rfl) dX11_wouldAnswer_21 (fun x7 => ?_)
  refine g_gS (fun hs => ?_)
  refine g_bRi (pc := 22) (c_VN cl4 hs (p_X4_foresee hl x3 x4 x7 h1) y_X4_foresee tw1224 dX11_wouldAnswer_22 rfl (st := []) rfl (Nat.le_of_ble_eq_true rfl) (Nat.le_of_ble_eq_true rfl) (Nat.le_of_ble_eq_true rfl)) (fun x8 h2 => ?_)
  refine g_zO (fun hz => ?_)
  exact g_ret (pc := 25) rfl (isRet_z hz) dX11_wouldAnswer_25 rfl
theorem p_X11_wouldAnswer {l : Launch} {E : aE} (hl : l.stackTraces = false) (x1 : Nat) (x2 : Int32) (h0 : aH) : MO (eT (fun (v : Int32) => some (.int v))) l E yX11_wouldAnswer (.code yX11_wouldAnswer cX11_wouldAnswer 2 (some .boolean)) 7 128 [.ref (e_z E + x1), .int x2] h0 (m_X11_wouldAnswer x1 x2 h0) := g_met hl (by decide +kernel) (Nat.le_of_ble_eq_true rfl) (b_X11_wouldAnswer hl _ _ x1 x2 h0)
theorem dX11_mostEngines_0 : decode cX11_mostEngines 0 = .ok (.aload_n 0, 1) := by decide +kernel
theorem dX11_mostEngines_1 : decode cX11_mostEngines 1 = .ok (.iload_n 1, 1) := by decide +kernel
theorem dX11_mostEngines_2 : decode cX11_mostEngines 2 = .ok (.invokevirtual 277, 3) := by decide +kernel
theorem dX11_mostEngines_5 : decode cX11_mostEngines 5 = .ok (.aload_n 0, 1) := by decide +kernel
theorem dX11_mostEngines_6 : decode cX11_mostEngines 6 = .ok (.getfield 49, 3) := by decide +kernel
theorem dX11_mostEngines_9 : decode cX11_mostEngines 9 = .ok (.aload_n 0, 1) := by decide +kernel
theorem dX11_mostEngines_10 : decode cX11_mostEngines 10 = .ok (.getfield 37, 3) := by decide +kernel
theorem dX11_mostEngines_13 : decode cX11_mostEngines 13 = .ok (.aload_n 0, 1) := by decide +kernel
theorem dX11_mostEngines_14 : decode cX11_mostEngines 14 = .ok (.getfield 25, 3) := by decide +kernel
theorem dX11_mostEngines_17 : decode cX11_mostEngines 17 = .ok (.getfield 280, 3) := by decide +kernel
theorem dX11_mostEngines_20 : decode cX11_mostEngines 20 = .ok (.iload_n 1, 1) := by decide +kernel
theorem dX11_mostEngines_21 : decode cX11_mostEngines 21 = .ok (.aaload, 1) := by decide +kernel
theorem dX11_mostEngines_22 : decode cX11_mostEngines 22 = .ok (.invokevirtual 284, 3) := by decide +kernel
theorem dX11_mostEngines_25 : decode cX11_mostEngines 25 = .ok (.pop, 1) := by decide +kernel
theorem dX11_mostEngines_26 : decode cX11_mostEngines 26 = .ok (.aload_n 0, 1) := by decide +kernel
theorem dX11_mostEngines_27 : decode cX11_mostEngines 27 = .ok (.getfield 49, 3) := by decide +kernel
theorem dX11_mostEngines_30 : decode cX11_mostEngines 30 = .ok (.aload_n 0, 1) := by decide +kernel
theorem dX11_mostEngines_31 : decode cX11_mostEngines 31 = .ok (.getfield 25, 3) := by decide +kernel
theorem dX11_mostEngines_34 : decode cX11_mostEngines 34 = .ok (.getfield 280, 3) := by decide +kernel
theorem dX11_mostEngines_37 : decode cX11_mostEngines 37 = .ok (.iload_n 1, 1) := by decide +kernel
theorem dX11_mostEngines_38 : decode cX11_mostEngines 38 = .ok (.aaload, 1) := by decide +kernel
theorem dX11_mostEngines_39 : decode cX11_mostEngines 39 = .ok (.invokevirtual 326, 3) := by decide +kernel
theorem dX11_mostEngines_42 : decode cX11_mostEngines 42 = .ok (.ireturn, 1) := by decide +kernel
abbrev M_X11_mostEngines : aM := (yX11_mostEngines.cls, cX11_mostEngines, 2, (some .int), [], yX11_mostEngines.name == "<init>")
abbrev J_X11_mostEngines (l : Launch) (E : aE) (n0 m0 : Nat) := GG (eT (fun (v : Int32) => some (.int v))) l E M_X11_mostEngines 7 128 n0 m0
theorem b_X11_mostEngines {l : Launch} {E : aE} (hl : l.stackTraces = false) (n0 m0 : Nat) (x1 : Nat) (x2 : Int32) (h0 : aH) : J_X11_mostEngines l E n0 m0 0 [(0, .ref (e_z E + x1)), (1, .int x2)] [] h0 (m_X11_mostEngines x1 x2 h0) := by
  unfold m_X11_mostEngines
  refine g_aload_n (pc := 0) dX11_mostEngines_0 0 rfl ?_
  refine g_iload_n (pc := 1) dX11_mostEngines_1 1 rfl ?_
  refine g_gS (fun hs => ?_)
  refine g_bXv (pc := 2) rfl (c_V cl11 hs (p_X11_needKind hl x1 x2 h0) y_X11_needKind tw1219 dX11_mostEngines_2 rfl (st := []) rfl (Nat.le_of_ble_eq_true rfl) (Nat.le_of_ble_eq_true rfl) (Nat.le_of_ble_eq_true rfl)) (fun _ h1 => ?_)
  refine g_aload_n (pc := 5) dX11_mostEngines_5 0 rfl ?_
  refine g_getr (pc := 6) cl11 (Nat.le_of_ble_eq_true rfl) fk497 (fun _ _ _ => rfl) dX11_mostEngines_6 (fun x3 => ?_)
  refine g_aload_n (pc := 9) dX11_mostEngines_9 0 rfl ?_
  refine g_getr (pc := 10) cl11 (Nat.le_of_ble_eq_true rfl) fk495 (fun _ _ _ => rfl) dX11_mostEngines_10 (fun x4 => ?_)
  refine g_aload_n (pc := 13) dX11_mostEngines_13 0 rfl ?_
  refine g_getr (pc := 14) cl11 (Nat.le_of_ble_eq_true rfl) fk493 (fun _ _ _ => rfl) dX11_mostEngines_14 (fun x5 => ?_)
  refine g_getr (pc := 17) cl8 (Nat.le_of_ble_eq_true rfl) fk273 (fun _ _ _ => rfl) dX11_mostEngines_17 (fun x6 => ?_)
  refine g_iload_n (pc := 20) dX11_mostEngines_20 1 rfl ?_
  refine g_aald (pc := 21) (t := 8) (Nat.le_of_ble_eq_true rfl) (Nat.le_of_ble_eq_true rfl) dX11_mostEngines_21 (fun x7 => ?_)
  refine g_gS (fun hs => ?_)
  refine g_bRi (pc := 22) (c_VN cl4 hs (p_X4_foresee hl x3 x4 x7 h1) y_X4_foresee tw1224 dX11_mostEngines_22 rfl (st := []) rfl (Nat.le_of_ble_eq_true rfl) (Nat.le_of_ble_eq_true rfl) (Nat.le_of_ble_eq_true rfl)) (fun x8 h2 => ?_)
  refine g_pop (pc := 25) rfl dX11_mostEngines_25 ?_
  refine g_aload_n (pc := 26) dX11_mostEngines_26 0 rfl ?_
  refine g_getr (pc := 27) cl11 (Nat.le_of_ble_eq_true rfl) fk497 (fun _ _ _ => rfl) dX11_mostEngines_27 (fun x9 => ?_)
  refine g_aload_n (pc := 30) dX11_mostEngines_30 0 rfl ?_
  refine g_getr (pc := 31) cl11 (Nat.le_of_ble_eq_true rfl) fk493 (fun _ _ _ => rfl) dX11_mostEngines_31 (fun x10 => ?_)
  refine g_getr (pc := 34) cl8 (Nat.le_of_ble_eq_true rfl) fk273 (fun _ _ _ => rfl) dX11_mostEngines_34 (fun x11 => ?_)
  refine g_iload_n (pc := 37) dX11_mostEngines_37 1 rfl ?_
  refine g_aald (pc := 38) (t := 8) (Nat.le_of_ble_eq_true rfl) (Nat.le_of_ble_eq_true rfl) dX11_mostEngines_38 (fun x12 => ?_)
  refine g_gS (fun hs => ?_)
  refine g_bRi (pc := 39) (c_VN cl4 hs (p_X4_mostTogether hl x9 x12 h2) y_X4_mostTogether tw1335 dX11_mostEngines_39 rfl (st := []) rfl (Nat.le_of_ble_eq_true rfl) (Nat.le_of_ble_eq_true rfl) (Nat.le_of_ble_eq_true rfl)) (fun x13 h3 => ?_)
  exact g_ret (pc := 42) rfl (isRet_i _) dX11_mostEngines_42 rfl
theorem p_X11_mostEngines {l : Launch} {E : aE} (hl : l.stackTraces = false) (x1 : Nat) (x2 : Int32) (h0 : aH) : MO (eT (fun (v : Int32) => some (.int v))) l E yX11_mostEngines (.code yX11_mostEngines cX11_mostEngines 2 (some .int)) 7 128 [.ref (e_z E + x1), .int x2] h0 (m_X11_mostEngines x1 x2 h0) := g_met hl (by decide +kernel) (Nat.le_of_ble_eq_true rfl) (b_X11_mostEngines hl _ _ x1 x2 h0)
theorem dX11_hoursUntilAnswered_0 : decode cX11_hoursUntilAnswered 0 = .ok (.aload_n 0, 1) := by decide +kernel
theorem dX11_hoursUntilAnswered_1 : decode cX11_hoursUntilAnswered 1 = .ok (.iload_n 1, 1) := by decide +kernel
theorem dX11_hoursUntilAnswered_2 : decode cX11_hoursUntilAnswered 2 = .ok (.invokevirtual 277, 3) := by decide +kernel
theorem dX11_hoursUntilAnswered_5 : decode cX11_hoursUntilAnswered 5 = .ok (.aload_n 0, 1) := by decide +kernel
theorem dX11_hoursUntilAnswered_6 : decode cX11_hoursUntilAnswered 6 = .ok (.getfield 41, 3) := by decide +kernel
theorem dX11_hoursUntilAnswered_9 : decode cX11_hoursUntilAnswered 9 = .ok (.aload_n 0, 1) := by decide +kernel
theorem dX11_hoursUntilAnswered_10 : decode cX11_hoursUntilAnswered 10 = .ok (.getfield 37, 3) := by decide +kernel
theorem dX11_hoursUntilAnswered_13 : decode cX11_hoursUntilAnswered 13 = .ok (.invokevirtual 330, 3) := by decide +kernel
theorem dX11_hoursUntilAnswered_16 : decode cX11_hoursUntilAnswered 16 = .ok (.iconst 0, 1) := by decide +kernel
theorem dX11_hoursUntilAnswered_17 : decode cX11_hoursUntilAnswered 17 = .ok (.istore_n 2, 1) := by decide +kernel
theorem dX11_hoursUntilAnswered_18 : decode cX11_hoursUntilAnswered 18 = .ok (.iload_n 2, 1) := by decide +kernel
theorem dX11_hoursUntilAnswered_19 : decode cX11_hoursUntilAnswered 19 = .ok (.bipush 48, 2) := by decide +kernel
theorem dX11_hoursUntilAnswered_21 : decode cX11_hoursUntilAnswered 21 = .ok (.if_icmp .gt 44, 3) := by decide +kernel
theorem dX11_hoursUntilAnswered_24 : decode cX11_hoursUntilAnswered 24 = .ok (.aload_n 0, 1) := by decide +kernel
theorem dX11_hoursUntilAnswered_25 : decode cX11_hoursUntilAnswered 25 = .ok (.getfield 49, 3) := by decide +kernel
theorem dX11_hoursUntilAnswered_28 : decode cX11_hoursUntilAnswered 28 = .ok (.aload_n 0, 1) := by decide +kernel
theorem dX11_hoursUntilAnswered_29 : decode cX11_hoursUntilAnswered 29 = .ok (.getfield 41, 3) := by decide +kernel
theorem dX11_hoursUntilAnswered_32 : decode cX11_hoursUntilAnswered 32 = .ok (.aload_n 0, 1) := by decide +kernel
theorem dX11_hoursUntilAnswered_33 : decode cX11_hoursUntilAnswered 33 = .ok (.getfield 25, 3) := by decide +kernel
theorem dX11_hoursUntilAnswered_36 : decode cX11_hoursUntilAnswered 36 = .ok (.getfield 280, 3) := by decide +kernel
theorem dX11_hoursUntilAnswered_39 : decode cX11_hoursUntilAnswered 39 = .ok (.iload_n 1, 1) := by decide +kernel
theorem dX11_hoursUntilAnswered_40 : decode cX11_hoursUntilAnswered 40 = .ok (.aaload, 1) := by decide +kernel
theorem dX11_hoursUntilAnswered_41 : decode cX11_hoursUntilAnswered 41 = .ok (.invokevirtual 284, 3) := by decide +kernel
theorem dX11_hoursUntilAnswered_44 : decode cX11_hoursUntilAnswered 44 = .ok (.ifCond .eq 5, 3) := by decide +kernel
theorem dX11_hoursUntilAnswered_47 : decode cX11_hoursUntilAnswered 47 = .ok (.iload_n 2, 1) := by decide +kernel
theorem dX11_hoursUntilAnswered_48 : decode cX11_hoursUntilAnswered 48 = .ok (.ireturn, 1) := by decide +kernel
theorem dX11_hoursUntilAnswered_49 : decode cX11_hoursUntilAnswered 49 = .ok (.aload_n 0, 1) := by decide +kernel
theorem dX11_hoursUntilAnswered_50 : decode cX11_hoursUntilAnswered 50 = .ok (.getfield 41, 3) := by decide +kernel
theorem dX11_hoursUntilAnswered_53 : decode cX11_hoursUntilAnswered 53 = .ok (.bipush 60, 2) := by decide +kernel
theorem dX11_hoursUntilAnswered_55 : decode cX11_hoursUntilAnswered 55 = .ok (.invokevirtual 333, 3) := by decide +kernel
theorem dX11_hoursUntilAnswered_58 : decode cX11_hoursUntilAnswered 58 = .ok (.pop, 1) := by decide +kernel
theorem dX11_hoursUntilAnswered_59 : decode cX11_hoursUntilAnswered 59 = .ok (.iinc 2 1, 3) := by decide +kernel
theorem dX11_hoursUntilAnswered_62 : decode cX11_hoursUntilAnswered 62 = .ok (.goto (-44), 3) := by decide +kernel
theorem dX11_hoursUntilAnswered_65 : decode cX11_hoursUntilAnswered 65 = .ok (.new 126, 3) := by decide +kernel
theorem dX11_hoursUntilAnswered_68 : decode cX11_hoursUntilAnswered 68 = .ok (.dup, 1) := by decide +kernel
theorem dX11_hoursUntilAnswered_69 : decode cX11_hoursUntilAnswered 69 = .ok (.ldc_w 336, 3) := by decide +kernel
theorem dX11_hoursUntilAnswered_72 : decode cX11_hoursUntilAnswered 72 = .ok (.invokespecial 130, 3) := by decide +kernel
theorem dX11_hoursUntilAnswered_75 : decode cX11_hoursUntilAnswered 75 = .ok (.athrow, 1) := by decide +kernel
abbrev M_X11_hoursUntilAnswered : aM := (yX11_hoursUntilAnswered.cls, cX11_hoursUntilAnswered, 3, (some .int), [], yX11_hoursUntilAnswered.name == "<init>")
abbrev J_X11_hoursUntilAnswered (l : Launch) (E : aE) (n0 m0 : Nat) := GG (eT (fun (v : Int32) => some (.int v))) l E M_X11_hoursUntilAnswered 7 128 n0 m0
theorem b_X11_hoursUntilAnswered {l : Launch} {E : aE} (hl : l.stackTraces = false) (n0 m0 : Nat) (x1 : Nat) (x2 : Int32) (h0 : aH) : J_X11_hoursUntilAnswered l E n0 m0 0 [(0, .ref (e_z E + x1)), (1, .int x2)] [] h0 (m_X11_hoursUntilAnswered x1 x2 h0) := by
  unfold m_X11_hoursUntilAnswered
  refine g_aload_n (pc := 0) dX11_hoursUntilAnswered_0 0 rfl ?_
  refine g_iload_n (pc := 1) dX11_hoursUntilAnswered_1 1 rfl ?_
  refine g_gS (fun hs => ?_)
  refine g_bXv (pc := 2) rfl (c_V cl11 hs (p_X11_needKind hl x1 x2 h0) y_X11_needKind tw1219 dX11_hoursUntilAnswered_2 rfl (st := []) rfl (Nat.le_of_ble_eq_true rfl) (Nat.le_of_ble_eq_true rfl) (Nat.le_of_ble_eq_true rfl)) (fun _ h1 => ?_)
  refine g_aload_n (pc := 5) dX11_hoursUntilAnswered_5 0 rfl ?_
  refine g_getr (pc := 6) cl11 (Nat.le_of_ble_eq_true rfl) fk496 (fun _ _ _ => rfl) dX11_hoursUntilAnswered_6 (fun x3 => ?_)
  refine g_aload_n (pc := 9) dX11_hoursUntilAnswered_9 0 rfl ?_
  refine g_getr (pc := 10) cl11 (Nat.le_of_ble_eq_true rfl) fk495 (fun _ _ _ => rfl) dX11_hoursUntilAnswered_10 (fun x4 => ?_)
  refine g_gS (fun hs => ?_)
  refine g_bRv (pc := 13) (c_VN cl10 hs (p_X10_copyFrom hl x3 x4 h1) y_X10_copyFrom tw1352 dX11_hoursUntilAnswered_13 rfl (st := []) rfl (Nat.le_of_ble_eq_true rfl) (Nat.le_of_ble_eq_true rfl) (Nat.le_of_ble_eq_true rfl)) (fun _ h2 => ?_)
  refine g_iconst (pc := 16) dX11_hoursUntilAnswered_16 ci_0 ?_
  refine g_istore_n (pc := 17) (lv' := [(2, .int (0 : Int32)), (0, .ref (e_z E + x1)), (1, .int x2)]) dX11_hoursUntilAnswered_17 (Nat.le_of_ble_eq_true rfl) rfl ?_
  refine g_join (fun k => ∀ (h3 : aH), J_X11_hoursUntilAnswered l E n0 m0 65 [] [] h3 (k h3)) (fun h3 => ?_) (fun k65 hk65 => ?_)
  · exact g_throwXW (pc := 65) exd0_NSE exd1_NSE exd2_NSE exd3_NSE rfl exf_NSE exn tx_24 ⟨tw876, rfl, rfl⟩ exi_NSE (xx_of exw_NSE ⟨tw886, rfl, rfl⟩) dX11_hoursUntilAnswered_65 dX11_hoursUntilAnswered_68 dX11_hoursUntilAnswered_69 dX11_hoursUntilAnswered_72 dX11_hoursUntilAnswered_75 (Nat.le_of_ble_eq_true rfl) (Nat.le_of_ble_eq_true rfl)
  refine g_join (fun k => ∀ (x5 : Int32) (h4 : aH), J_X11_hoursUntilAnswered l E n0 m0 47 [(2, .int x5)] [] h4 (k x5 h4)) (fun x5 h4 => ?_) (fun k47 hk47 => ?_)
  · refine g_iload_n (pc := 47) dX11_hoursUntilAnswered_47 0 rfl ?_
    exact g_ret (pc := 48) rfl (isRet_i _) dX11_hoursUntilAnswered_48 rfl
  refine g_lv [1, 2, 0] rfl ?_
  refine g_loop1 (F := (m_X11_hoursUntilAnswered_L18 x1 x2 k65 k47)) (fun x6 => [(0, .ref (e_z E + x1)), (1, .int x2), (2, .int x6)]) (fun r18 hr18 x6 h5 => ?_) _ _ _
  unfold m_X11_hoursUntilAnswered_L18
  refine g_iload_n (pc := 18) dX11_hoursUntilAnswered_18 2 rfl ?_
  refine g_bipush (pc := 19) dX11_hoursUntilAnswered_19 cb_48 ?_
  refine g_icmpgt (pc := 21) (tgt := 65) dX11_hoursUntilAnswered_21 rfl ?_ ?_
  · refine g_aload_n (pc := 24) dX11_hoursUntilAnswered_24 0 rfl ?_
    refine g_getr (pc := 25) cl11 (Nat.le_of_ble_eq_true rfl) fk497 (fun _ _ _ => rfl) dX11_hoursUntilAnswered_25 (fun x7 => ?_)
    refine g_aload_n (pc := 28) dX11_hoursUntilAnswered_28 0 rfl ?_
    refine g_getr (pc := 29) cl11 (Nat.le_of_ble_eq_true rfl) fk496 (fun _ _ _ => rfl) dX11_hoursUntilAnswered_29 (fun x8 => ?_)
    refine g_aload_n (pc := 32) dX11_hoursUntilAnswered_32 0 rfl ?_
    refine g_getr (pc := 33) cl11 (Nat.le_of_ble_eq_true rfl) fk493 (fun _ _ _ => rfl) dX11_hoursUntilAnswered_33 (fun x9 => ?_)
    refine g_getr (pc := 36) cl8 (Nat.le_of_ble_eq_true rfl) fk273 (fun _ _ _ => rfl) dX11_hoursUntilAnswered_36 (fun x10 => ?_)
    refine g_iload_n (pc := 39) dX11_hoursUntilAnswered_39 1 rfl ?_
    refine g_aald (pc := 40) (t := 8) (Nat.le_of_ble_eq_true rfl) (Nat.le_of_ble_eq_true rfl) dX11_hoursUntilAnswered_40 (fun x11 => ?_)
    refine g_gS (fun hs => ?_)
    refine g_bRi (pc := 41) (c_VN cl4 hs (p_X4_foresee hl x7 x8 x11 h5) y_X4_foresee tw1224 dX11_hoursUntilAnswered_41 rfl (st := []) rfl (Nat.le_of_ble_eq_true rfl) (Nat.le_of_ble_eq_true rfl) (Nat.le_of_ble_eq_true rfl)) (fun x12 h6 => ?_)
    refine g_ifeq (pc := 44) (tgt := 49) dX11_hoursUntilAnswered_44 rfl ?_ ?_
    · refine g_aload_n (pc := 49) dX11_hoursUntilAnswered_49 0 rfl ?_
      refine g_getr (pc := 50) cl11 (Nat.le_of_ble_eq_true rfl) fk496 (fun _ _ _ => rfl) dX11_hoursUntilAnswered_50 (fun x13 => ?_)
      refine g_bipush (pc := 53) dX11_hoursUntilAnswered_53 cb_60 ?_
      refine g_gS (fun hs => ?_)
      refine g_bRi (pc := 55) (c_VN cl10 hs (p_X10_advance hl x13 (60 : Int32) h6) y_X10_advance tw1362 dX11_hoursUntilAnswered_55 rfl (st := []) rfl (Nat.le_of_ble_eq_true rfl) (Nat.le_of_ble_eq_true rfl) (Nat.le_of_ble_eq_true rfl)) (fun x14 h7 => ?_)
      refine g_pop (pc := 58) rfl dX11_hoursUntilAnswered_58 ?_
      refine g_iincN (pc := 59) dX11_hoursUntilAnswered_59 2 rfl ci_1 (Nat.le_of_ble_eq_true rfl) (fun x15 => ?_)
      refine g_lvr (lv' := [(2, .int x15), (0, .ref (e_z E + x1)), (1, .int x2)]) rfl ?_
      refine g_goto (pc := 62) (tgt := 18) dX11_hoursUntilAnswered_62 rfl ?_
      refine g_lv [1, 2, 0] rfl ?_
      exact hr18 x15 h7
    · refine g_lv [2] rfl ?_
      exact hk47 x6 h6
  · refine g_lv [] rfl ?_
    exact hk65 h5
theorem p_X11_hoursUntilAnswered {l : Launch} {E : aE} (hl : l.stackTraces = false) (x1 : Nat) (x2 : Int32) (h0 : aH) : MO (eT (fun (v : Int32) => some (.int v))) l E yX11_hoursUntilAnswered (.code yX11_hoursUntilAnswered cX11_hoursUntilAnswered 3 (some .int)) 7 128 [.ref (e_z E + x1), .int x2] h0 (m_X11_hoursUntilAnswered x1 x2 h0) := g_met hl (by decide +kernel) (Nat.le_of_ble_eq_true rfl) (b_X11_hoursUntilAnswered hl _ _ x1 x2 h0)
theorem dX11_helpfulHandOn_0 : decode cX11_helpfulHandOn 0 = .ok (.aload_n 0, 1) := by decide +kernel
theorem dX11_helpfulHandOn_1 : decode cX11_helpfulHandOn 1 = .ok (.iload_n 1, 1) := by decide +kernel
theorem dX11_helpfulHandOn_2 : decode cX11_helpfulHandOn 2 = .ok (.invokevirtual 277, 3) := by decide +kernel
theorem dX11_helpfulHandOn_5 : decode cX11_helpfulHandOn 5 = .ok (.aload_n 0, 1) := by decide +kernel
theorem dX11_helpfulHandOn_6 : decode cX11_helpfulHandOn 6 = .ok (.getfield 49, 3) := by decide +kernel
theorem dX11_helpfulHandOn_9 : decode cX11_helpfulHandOn 9 = .ok (.aload_n 0, 1) := by decide +kernel
theorem dX11_helpfulHandOn_10 : decode cX11_helpfulHandOn 10 = .ok (.getfield 37, 3) := by decide +kernel
theorem dX11_helpfulHandOn_13 : decode cX11_helpfulHandOn 13 = .ok (.aload_n 0, 1) := by decide +kernel
theorem dX11_helpfulHandOn_14 : decode cX11_helpfulHandOn 14 = .ok (.getfield 25, 3) := by decide +kernel
theorem dX11_helpfulHandOn_17 : decode cX11_helpfulHandOn 17 = .ok (.getfield 280, 3) := by decide +kernel
theorem dX11_helpfulHandOn_20 : decode cX11_helpfulHandOn 20 = .ok (.iload_n 1, 1) := by decide +kernel
theorem dX11_helpfulHandOn_21 : decode cX11_helpfulHandOn 21 = .ok (.aaload, 1) := by decide +kernel
theorem dX11_helpfulHandOn_22 : decode cX11_helpfulHandOn 22 = .ok (.invokevirtual 284, 3) := by decide +kernel
theorem dX11_helpfulHandOn_25 : decode cX11_helpfulHandOn 25 = .ok (.ifCond .eq 14, 3) := by decide +kernel
theorem dX11_helpfulHandOn_28 : decode cX11_helpfulHandOn 28 = .ok (.new 74, 3) := by decide +kernel
theorem dX11_helpfulHandOn_31 : decode cX11_helpfulHandOn 31 = .ok (.dup, 1) := by decide +kernel
theorem dX11_helpfulHandOn_32 : decode cX11_helpfulHandOn 32 = .ok (.ldc_w 341, 3) := by decide +kernel
theorem dX11_helpfulHandOn_35 : decode cX11_helpfulHandOn 35 = .ok (.invokespecial 78, 3) := by decide +kernel
theorem dX11_helpfulHandOn_38 : decode cX11_helpfulHandOn 38 = .ok (.athrow, 1) := by decide +kernel
theorem dX11_helpfulHandOn_39 : decode cX11_helpfulHandOn 39 = .ok (.aload_n 0, 1) := by decide +kernel
theorem dX11_helpfulHandOn_40 : decode cX11_helpfulHandOn 40 = .ok (.getfield 41, 3) := by decide +kernel
theorem dX11_helpfulHandOn_43 : decode cX11_helpfulHandOn 43 = .ok (.aload_n 0, 1) := by decide +kernel
theorem dX11_helpfulHandOn_44 : decode cX11_helpfulHandOn 44 = .ok (.getfield 37, 3) := by decide +kernel
theorem dX11_helpfulHandOn_47 : decode cX11_helpfulHandOn 47 = .ok (.invokevirtual 330, 3) := by decide +kernel
theorem dX11_helpfulHandOn_50 : decode cX11_helpfulHandOn 50 = .ok (.iconst 0, 1) := by decide +kernel
theorem dX11_helpfulHandOn_51 : decode cX11_helpfulHandOn 51 = .ok (.istore_n 2, 1) := by decide +kernel
theorem dX11_helpfulHandOn_52 : decode cX11_helpfulHandOn 52 = .ok (.iload_n 2, 1) := by decide +kernel
theorem dX11_helpfulHandOn_53 : decode cX11_helpfulHandOn 53 = .ok (.aload_n 0, 1) := by decide +kernel
theorem dX11_helpfulHandOn_54 : decode cX11_helpfulHandOn 54 = .ok (.getfield 25, 3) := by decide +kernel
theorem dX11_helpfulHandOn_57 : decode cX11_helpfulHandOn 57 = .ok (.getfield 343, 3) := by decide +kernel
theorem dX11_helpfulHandOn_60 : decode cX11_helpfulHandOn 60 = .ok (.if_icmp .ge 114, 3) := by decide +kernel
theorem dX11_helpfulHandOn_63 : decode cX11_helpfulHandOn 63 = .ok (.aload_n 0, 1) := by decide +kernel
theorem dX11_helpfulHandOn_64 : decode cX11_helpfulHandOn 64 = .ok (.getfield 41, 3) := by decide +kernel
theorem dX11_helpfulHandOn_67 : decode cX11_helpfulHandOn 67 = .ok (.iload_n 2, 1) := by decide +kernel
theorem dX11_helpfulHandOn_68 : decode cX11_helpfulHandOn 68 = .ok (.aload_n 0, 1) := by decide +kernel
theorem dX11_helpfulHandOn_69 : decode cX11_helpfulHandOn 69 = .ok (.getfield 41, 3) := by decide +kernel
theorem dX11_helpfulHandOn_72 : decode cX11_helpfulHandOn 72 = .ok (.getfield 144, 3) := by decide +kernel
theorem dX11_helpfulHandOn_75 : decode cX11_helpfulHandOn 75 = .ok (.invokevirtual 207, 3) := by decide +kernel
theorem dX11_helpfulHandOn_78 : decode cX11_helpfulHandOn 78 = .ok (.istore_n 3, 1) := by decide +kernel
theorem dX11_helpfulHandOn_79 : decode cX11_helpfulHandOn 79 = .ok (.iconst 0, 1) := by decide +kernel
theorem dX11_helpfulHandOn_80 : decode cX11_helpfulHandOn 80 = .ok (.istore 4, 2) := by decide +kernel
theorem dX11_helpfulHandOn_82 : decode cX11_helpfulHandOn 82 = .ok (.iload 4, 2) := by decide +kernel
theorem dX11_helpfulHandOn_84 : decode cX11_helpfulHandOn 84 = .ok (.aload_n 0, 1) := by decide +kernel
theorem dX11_helpfulHandOn_85 : decode cX11_helpfulHandOn 85 = .ok (.getfield 25, 3) := by decide +kernel
theorem dX11_helpfulHandOn_88 : decode cX11_helpfulHandOn 88 = .ok (.getfield 105, 3) := by decide +kernel
theorem dX11_helpfulHandOn_91 : decode cX11_helpfulHandOn 91 = .ok (.if_icmp .ge 77, 3) := by decide +kernel
theorem dX11_helpfulHandOn_94 : decode cX11_helpfulHandOn 94 = .ok (.aload_n 0, 1) := by decide +kernel
theorem dX11_helpfulHandOn_95 : decode cX11_helpfulHandOn 95 = .ok (.getfield 41, 3) := by decide +kernel
theorem dX11_helpfulHandOn_98 : decode cX11_helpfulHandOn 98 = .ok (.iload_n 2, 1) := by decide +kernel
theorem dX11_helpfulHandOn_99 : decode cX11_helpfulHandOn 99 = .ok (.iload 4, 2) := by decide +kernel
theorem dX11_helpfulHandOn_101 : decode cX11_helpfulHandOn 101 = .ok (.iload_n 3, 1) := by decide +kernel
theorem dX11_helpfulHandOn_102 : decode cX11_helpfulHandOn 102 = .ok (.invokevirtual 226, 3) := by decide +kernel
theorem dX11_helpfulHandOn_105 : decode cX11_helpfulHandOn 105 = .ok (.ifCond .ne 57, 3) := by decide +kernel
theorem dX11_helpfulHandOn_108 : decode cX11_helpfulHandOn 108 = .ok (.aload_n 0, 1) := by decide +kernel
theorem dX11_helpfulHandOn_109 : decode cX11_helpfulHandOn 109 = .ok (.getfield 41, 3) := by decide +kernel
theorem dX11_helpfulHandOn_112 : decode cX11_helpfulHandOn 112 = .ok (.iload_n 2, 1) := by decide +kernel
theorem dX11_helpfulHandOn_113 : decode cX11_helpfulHandOn 113 = .ok (.iload 4, 2) := by decide +kernel
theorem dX11_helpfulHandOn_115 : decode cX11_helpfulHandOn 115 = .ok (.iload_n 3, 1) := by decide +kernel
theorem dX11_helpfulHandOn_116 : decode cX11_helpfulHandOn 116 = .ok (.invokevirtual 346, 3) := by decide +kernel
theorem dX11_helpfulHandOn_119 : decode cX11_helpfulHandOn 119 = .ok (.aload_n 0, 1) := by decide +kernel
theorem dX11_helpfulHandOn_120 : decode cX11_helpfulHandOn 120 = .ok (.getfield 49, 3) := by decide +kernel
theorem dX11_helpfulHandOn_123 : decode cX11_helpfulHandOn 123 = .ok (.aload_n 0, 1) := by decide +kernel
theorem dX11_helpfulHandOn_124 : decode cX11_helpfulHandOn 124 = .ok (.getfield 41, 3) := by decide +kernel
theorem dX11_helpfulHandOn_127 : decode cX11_helpfulHandOn 127 = .ok (.aload_n 0, 1) := by decide +kernel
theorem dX11_helpfulHandOn_128 : decode cX11_helpfulHandOn 128 = .ok (.getfield 25, 3) := by decide +kernel
theorem dX11_helpfulHandOn_131 : decode cX11_helpfulHandOn 131 = .ok (.getfield 280, 3) := by decide +kernel
theorem dX11_helpfulHandOn_134 : decode cX11_helpfulHandOn 134 = .ok (.iload_n 1, 1) := by decide +kernel
theorem dX11_helpfulHandOn_135 : decode cX11_helpfulHandOn 135 = .ok (.aaload, 1) := by decide +kernel
theorem dX11_helpfulHandOn_136 : decode cX11_helpfulHandOn 136 = .ok (.invokevirtual 284, 3) := by decide +kernel
theorem dX11_helpfulHandOn_139 : decode cX11_helpfulHandOn 139 = .ok (.istore 5, 2) := by decide +kernel
theorem dX11_helpfulHandOn_141 : decode cX11_helpfulHandOn 141 = .ok (.aload_n 0, 1) := by decide +kernel
theorem dX11_helpfulHandOn_142 : decode cX11_helpfulHandOn 142 = .ok (.getfield 41, 3) := by decide +kernel
theorem dX11_helpfulHandOn_145 : decode cX11_helpfulHandOn 145 = .ok (.iload_n 2, 1) := by decide +kernel
theorem dX11_helpfulHandOn_146 : decode cX11_helpfulHandOn 146 = .ok (.invokevirtual 350, 3) := by decide +kernel
theorem dX11_helpfulHandOn_149 : decode cX11_helpfulHandOn 149 = .ok (.iload 5, 2) := by decide +kernel
theorem dX11_helpfulHandOn_151 : decode cX11_helpfulHandOn 151 = .ok (.ifCond .eq 11, 3) := by decide +kernel
theorem dX11_helpfulHandOn_154 : decode cX11_helpfulHandOn 154 = .ok (.iload_n 2, 1) := by decide +kernel
theorem dX11_helpfulHandOn_155 : decode cX11_helpfulHandOn 155 = .ok (.bipush 12, 2) := by decide +kernel
theorem dX11_helpfulHandOn_157 : decode cX11_helpfulHandOn 157 = .ok (.imul, 1) := by decide +kernel
theorem dX11_helpfulHandOn_158 : decode cX11_helpfulHandOn 158 = .ok (.iload 4, 2) := by decide +kernel
theorem dX11_helpfulHandOn_160 : decode cX11_helpfulHandOn 160 = .ok (.iadd, 1) := by decide +kernel
theorem dX11_helpfulHandOn_161 : decode cX11_helpfulHandOn 161 = .ok (.ireturn, 1) := by decide +kernel
theorem dX11_helpfulHandOn_162 : decode cX11_helpfulHandOn 162 = .ok (.iinc 4 1, 3) := by decide +kernel
theorem dX11_helpfulHandOn_165 : decode cX11_helpfulHandOn 165 = .ok (.goto (-83), 3) := by decide +kernel
theorem dX11_helpfulHandOn_168 : decode cX11_helpfulHandOn 168 = .ok (.iinc 2 1, 3) := by decide +kernel
theorem dX11_helpfulHandOn_171 : decode cX11_helpfulHandOn 171 = .ok (.goto (-119), 3) := by decide +kernel
theorem dX11_helpfulHandOn_174 : decode cX11_helpfulHandOn 174 = .ok (.new 126, 3) := by decide +kernel
theorem dX11_helpfulHandOn_177 : decode cX11_helpfulHandOn 177 = .ok (.dup, 1) := by decide +kernel
theorem dX11_helpfulHandOn_178 : decode cX11_helpfulHandOn 178 = .ok (.ldc_w 353, 3) := by decide +kernel
theorem dX11_helpfulHandOn_181 : decode cX11_helpfulHandOn 181 = .ok (.invokespecial 130, 3) := by decide +kernel
theorem dX11_helpfulHandOn_184 : decode cX11_helpfulHandOn 184 = .ok (.athrow, 1) := by decide +kernel
abbrev M_X11_helpfulHandOn : aM := (yX11_helpfulHandOn.cls, cX11_helpfulHandOn, 6, (some .int), [], yX11_helpfulHandOn.name == "<init>")
abbrev J_X11_helpfulHandOn (l : Launch) (E : aE) (n0 m0 : Nat) := GG (eT (fun (v : Int32) => some (.int v))) l E M_X11_helpfulHandOn 7 128 n0 m0
theorem b_X11_helpfulHandOn {l : Launch} {E : aE} (hl : l.stackTraces = false) (n0 m0 : Nat) (x1 : Nat) (x2 : Int32) (h0 : aH) : J_X11_helpfulHandOn l E n0 m0 0 [(0, .ref (e_z E + x1)), (1, .int x2)] [] h0 (m_X11_helpfulHandOn x1 x2 h0) := by
  unfold m_X11_helpfulHandOn
  refine g_aload_n (pc := 0) dX11_helpfulHandOn_0 0 rfl ?_
  refine g_iload_n (pc := 1) dX11_helpfulHandOn_1 1 rfl ?_
  refine g_gS (fun hs => ?_)
  refine g_bXv (pc := 2) rfl (c_V cl11 hs (p_X11_needKind hl x1 x2 h0) y_X11_needKind tw1219 dX11_helpfulHandOn_2 rfl (st := []) rfl (Nat.le_of_ble_eq_true rfl) (Nat.le_of_ble_eq_true rfl) (Nat.le_of_ble_eq_true rfl)) (fun _ h1 => ?_)
  refine g_aload_n (pc := 5) dX11_helpfulHandOn_5 0 rfl ?_
  refine g_getr (pc := 6) cl11 (Nat.le_of_ble_eq_true rfl) fk497 (fun _ _ _ => rfl) dX11_helpfulHandOn_6 (fun x3 => ?_)
  refine g_aload_n (pc := 9) dX11_helpfulHandOn_9 0 rfl ?_
  refine g_getr (pc := 10) cl11 (Nat.le_of_ble_eq_true rfl) fk495 (fun _ _ _ => rfl) dX11_helpfulHandOn_10 (fun x4 => ?_)
  refine g_aload_n (pc := 13) dX11_helpfulHandOn_13 0 rfl ?_
  refine g_getr (pc := 14) cl11 (Nat.le_of_ble_eq_true rfl) fk493 (fun _ _ _ => rfl) dX11_helpfulHandOn_14 (fun x5 => ?_)
  refine g_getr (pc := 17) cl8 (Nat.le_of_ble_eq_true rfl) fk273 (fun _ _ _ => rfl) dX11_helpfulHandOn_17 (fun x6 => ?_)
  refine g_iload_n (pc := 20) dX11_helpfulHandOn_20 1 rfl ?_
  refine g_aald (pc := 21) (t := 8) (Nat.le_of_ble_eq_true rfl) (Nat.le_of_ble_eq_true rfl) dX11_helpfulHandOn_21 (fun x7 => ?_)
  refine g_gS (fun hs => ?_)
  refine g_bRi (pc := 22) (c_VN cl4 hs (p_X4_foresee hl x3 x4 x7 h1) y_X4_foresee tw1224 dX11_helpfulHandOn_22 rfl (st := []) rfl (Nat.le_of_ble_eq_true rfl) (Nat.le_of_ble_eq_true rfl) (Nat.le_of_ble_eq_true rfl)) (fun x8 h2 => ?_)
  refine g_ifeq (pc := 25) (tgt := 39) dX11_helpfulHandOn_25 rfl ?_ ?_
  · refine g_aload_n (pc := 39) dX11_helpfulHandOn_39 0 rfl ?_
    refine g_getr (pc := 40) cl11 (Nat.le_of_ble_eq_true rfl) fk496 (fun _ _ _ => rfl) dX11_helpfulHandOn_40 (fun x9 => ?_)
    refine g_aload_n (pc := 43) dX11_helpfulHandOn_43 0 rfl ?_
    refine g_getr (pc := 44) cl11 (Nat.le_of_ble_eq_true rfl) fk495 (fun _ _ _ => rfl) dX11_helpfulHandOn_44 (fun x10 => ?_)
    refine g_gS (fun hs => ?_)
    refine g_bRv (pc := 47) (c_VN cl10 hs (p_X10_copyFrom hl x9 x10 h2) y_X10_copyFrom tw1352 dX11_helpfulHandOn_47 rfl (st := []) rfl (Nat.le_of_ble_eq_true rfl) (Nat.le_of_ble_eq_true rfl) (Nat.le_of_ble_eq_true rfl)) (fun _ h3 => ?_)
    refine g_iconst (pc := 50) dX11_helpfulHandOn_50 ci_0 ?_
    refine g_istore_n (pc := 51) (lv' := [(2, .int (0 : Int32)), (0, .ref (e_z E + x1)), (1, .int x2)]) dX11_helpfulHandOn_51 (Nat.le_of_ble_eq_true rfl) rfl ?_
    refine g_join (fun k => ∀ (h4 : aH), J_X11_helpfulHandOn l E n0 m0 174 [] [] h4 (k h4)) (fun h4 => ?_) (fun k174 hk174 => ?_)
    · exact g_throwXW (pc := 174) exd0_NSE exd1_NSE exd2_NSE exd3_NSE rfl exf_NSE exn tx_26 ⟨tw876, rfl, rfl⟩ exi_NSE (xx_of exw_NSE ⟨tw886, rfl, rfl⟩) dX11_helpfulHandOn_174 dX11_helpfulHandOn_177 dX11_helpfulHandOn_178 dX11_helpfulHandOn_181 dX11_helpfulHandOn_184 (Nat.le_of_ble_eq_true rfl) (Nat.le_of_ble_eq_true rfl)
    refine g_join (fun k => ∀ (x11 : Int32) (x12 : Int32) (h5 : aH), J_X11_helpfulHandOn l E n0 m0 154 [(2, .int x11), (4, .int x12)] [] h5 (k x11 x12 h5)) (fun x11 x12 h5 => ?_) (fun k154 hk154 => ?_)
    · refine g_iload_n (pc := 154) dX11_helpfulHandOn_154 0 rfl ?_
      refine g_bipush (pc := 155) dX11_helpfulHandOn_155 cb_12 ?_
      refine g_imul (pc := 157) dX11_helpfulHandOn_157 ?_
      refine g_iload (pc := 158) dX11_helpfulHandOn_158 1 rfl ?_
      refine g_iadd (pc := 160) dX11_helpfulHandOn_160 ?_
      exact g_ret (pc := 161) rfl (isRet_i _) dX11_helpfulHandOn_161 rfl
    refine g_lv [1, 2, 0] rfl ?_
    refine g_loop1 (F := (m_X11_helpfulHandOn_L52 x1 x2 k174 k154)) (fun x13 => [(0, .ref (e_z E + x1)), (1, .int x2), (2, .int x13)]) (fun r52 hr52 x13 h6 => ?_) _ _ _
    unfold m_X11_helpfulHandOn_L52
    refine g_iload_n (pc := 52) dX11_helpfulHandOn_52 2 rfl ?_
    refine g_aload_n (pc := 53) dX11_helpfulHandOn_53 0 rfl ?_
    refine g_getr (pc := 54) cl11 (Nat.le_of_ble_eq_true rfl) fk493 (fun _ _ _ => rfl) dX11_helpfulHandOn_54 (fun x14 => ?_)
    refine g_geti (pc := 57) cl8 (Nat.le_of_ble_eq_true rfl) fk255 (fun _ _ _ => rfl) dX11_helpfulHandOn_57 (fun x15 => ?_)
    refine g_icmpge (pc := 60) (tgt := 174) dX11_helpfulHandOn_60 rfl ?_ ?_
    · refine g_aload_n (pc := 63) dX11_helpfulHandOn_63 0 rfl ?_
      refine g_getr (pc := 64) cl11 (Nat.le_of_ble_eq_true rfl) fk496 (fun _ _ _ => rfl) dX11_helpfulHandOn_64 (fun x16 => ?_)
      refine g_iload_n (pc := 67) dX11_helpfulHandOn_67 2 rfl ?_
      refine g_aload_n (pc := 68) dX11_helpfulHandOn_68 0 rfl ?_
      refine g_getr (pc := 69) cl11 (Nat.le_of_ble_eq_true rfl) fk496 (fun _ _ _ => rfl) dX11_helpfulHandOn_69 (fun x17 => ?_)
      refine g_geti (pc := 72) cl10 (Nat.le_of_ble_eq_true rfl) fk351 (fun _ _ _ => rfl) dX11_helpfulHandOn_72 (fun x18 => ?_)
      refine g_gS (fun hs => ?_)
      refine g_bRi (pc := 75) (c_VN cl10 hs (p_X10_endAt hl x16 x13 x18 h6) y_X10_endAt tw1054 dX11_helpfulHandOn_75 rfl (st := []) rfl (Nat.le_of_ble_eq_true rfl) (Nat.le_of_ble_eq_true rfl) (Nat.le_of_ble_eq_true rfl)) (fun x19 h7 => ?_)
      refine g_istore_n (pc := 78) (lv' := [(3, .int x19), (0, .ref (e_z E + x1)), (1, .int x2), (2, .int x13)]) dX11_helpfulHandOn_78 (Nat.le_of_ble_eq_true rfl) rfl ?_
      refine g_iconst (pc := 79) dX11_helpfulHandOn_79 ci_0 ?_
      refine g_istore (pc := 80) (lv' := [(4, .int (0 : Int32)), (3, .int x19), (0, .ref (e_z E + x1)), (1, .int x2), (2, .int x13)]) dX11_helpfulHandOn_80 (Nat.le_of_ble_eq_true rfl) rfl ?_
      refine g_join (fun k => ∀ (h8 : aH), J_X11_helpfulHandOn l E n0 m0 168 [(0, .ref (e_z E + x1)), (1, .int x2), (2, .int x13)] [] h8 (k h8)) (fun h8 => ?_) (fun k168 hk168 => ?_)
      · refine g_iincN (pc := 168) dX11_helpfulHandOn_168 2 rfl ci_1 (Nat.le_of_ble_eq_true rfl) (fun x20 => ?_)
        refine g_lvr (lv' := [(2, .int x20), (0, .ref (e_z E + x1)), (1, .int x2)]) rfl ?_
        refine g_goto (pc := 171) (tgt := 52) dX11_helpfulHandOn_171 rfl ?_
        refine g_lv [1, 2, 0] rfl ?_
        exact hr52 x20 h8
      refine g_lv [2, 3, 4, 1, 0] rfl ?_
      refine g_loop1 (F := (m_X11_helpfulHandOn_L82 x1 x2 k154 x13 x19 k168)) (fun x21 => [(0, .ref (e_z E + x1)), (1, .int x2), (2, .int x13), (3, .int x19), (4, .int x21)]) (fun r82 hr82 x21 h9 => ?_) _ _ _
      unfold m_X11_helpfulHandOn_L82
      refine g_iload (pc := 82) dX11_helpfulHandOn_82 4 rfl ?_
      refine g_aload_n (pc := 84) dX11_helpfulHandOn_84 0 rfl ?_
      refine g_getr (pc := 85) cl11 (Nat.le_of_ble_eq_true rfl) fk493 (fun _ _ _ => rfl) dX11_helpfulHandOn_85 (fun x22 => ?_)
      refine g_geti (pc := 88) cl8 (Nat.le_of_ble_eq_true rfl) fk240 (fun _ _ _ => rfl) dX11_helpfulHandOn_88 (fun x23 => ?_)
      refine g_icmpge (pc := 91) (tgt := 168) dX11_helpfulHandOn_91 rfl ?_ ?_
      · refine g_aload_n (pc := 94) dX11_helpfulHandOn_94 0 rfl ?_
        refine g_getr (pc := 95) cl11 (Nat.le_of_ble_eq_true rfl) fk496 (fun _ _ _ => rfl) dX11_helpfulHandOn_95 (fun x24 => ?_)
        refine g_iload_n (pc := 98) dX11_helpfulHandOn_98 2 rfl ?_
        refine g_iload (pc := 99) dX11_helpfulHandOn_99 4 rfl ?_
        refine g_iload_n (pc := 101) dX11_helpfulHandOn_101 3 rfl ?_
        refine g_gS (fun hs => ?_)
        refine g_bRi (pc := 102) (c_VN cl10 hs (p_X10_reasonAgainst hl x24 x13 x21 x19 h9) y_X10_reasonAgainst tw1107 dX11_helpfulHandOn_102 rfl (st := []) rfl (Nat.le_of_ble_eq_true rfl) (Nat.le_of_ble_eq_true rfl) (Nat.le_of_ble_eq_true rfl)) (fun x25 h10 => ?_)
        refine g_join (fun k => ∀ (h11 : aH), J_X11_helpfulHandOn l E n0 m0 162 [(0, .ref (e_z E + x1)), (1, .int x2), (2, .int x13), (3, .int x19), (4, .int x21)] [] h11 (k h11)) (fun h11 => ?_) (fun k162 hk162 => ?_)
        · refine g_iincN (pc := 162) dX11_helpfulHandOn_162 4 rfl ci_1 (Nat.le_of_ble_eq_true rfl) (fun x26 => ?_)
          refine g_lvr (lv' := [(4, .int x26), (0, .ref (e_z E + x1)), (1, .int x2), (2, .int x13), (3, .int x19)]) rfl ?_
          refine g_goto (pc := 165) (tgt := 82) dX11_helpfulHandOn_165 rfl ?_
          refine g_lv [1, 2, 3, 4, 0] rfl ?_
          exact hr82 x26 h11
        refine g_ifne (pc := 105) (tgt := 162) dX11_helpfulHandOn_105 rfl ?_ ?_
        · refine g_aload_n (pc := 108) dX11_helpfulHandOn_108 0 rfl ?_
          refine g_getr (pc := 109) cl11 (Nat.le_of_ble_eq_true rfl) fk496 (fun _ _ _ => rfl) dX11_helpfulHandOn_109 (fun x27 => ?_)
          refine g_iload_n (pc := 112) dX11_helpfulHandOn_112 2 rfl ?_
          refine g_iload (pc := 113) dX11_helpfulHandOn_113 4 rfl ?_
          refine g_iload_n (pc := 115) dX11_helpfulHandOn_115 3 rfl ?_
          refine g_gS (fun hs => ?_)
          refine g_bRv (pc := 116) (c_VN cl10 hs (p_X10_addHandOn hl x27 x13 x21 x19 h10) y_X10_addHandOn tw1388 dX11_helpfulHandOn_116 rfl (st := []) rfl (Nat.le_of_ble_eq_true rfl) (Nat.le_of_ble_eq_true rfl) (Nat.le_of_ble_eq_true rfl)) (fun _ h12 => ?_)
          refine g_aload_n (pc := 119) dX11_helpfulHandOn_119 0 rfl ?_
          refine g_getr (pc := 120) cl11 (Nat.le_of_ble_eq_true rfl) fk497 (fun _ _ _ => rfl) dX11_helpfulHandOn_120 (fun x28 => ?_)
          refine g_aload_n (pc := 123) dX11_helpfulHandOn_123 0 rfl ?_
          refine g_getr (pc := 124) cl11 (Nat.le_of_ble_eq_true rfl) fk496 (fun _ _ _ => rfl) dX11_helpfulHandOn_124 (fun x29 => ?_)
          refine g_aload_n (pc := 127) dX11_helpfulHandOn_127 0 rfl ?_
          refine g_getr (pc := 128) cl11 (Nat.le_of_ble_eq_true rfl) fk493 (fun _ _ _ => rfl) dX11_helpfulHandOn_128 (fun x30 => ?_)
          refine g_getr (pc := 131) cl8 (Nat.le_of_ble_eq_true rfl) fk273 (fun _ _ _ => rfl) dX11_helpfulHandOn_131 (fun x31 => ?_)
          refine g_iload_n (pc := 134) dX11_helpfulHandOn_134 1 rfl ?_
          refine g_aald (pc := 135) (t := 8) (Nat.le_of_ble_eq_true rfl) (Nat.le_of_ble_eq_true rfl) dX11_helpfulHandOn_135 (fun x32 => ?_)
          refine g_gS (fun hs => ?_)
          refine g_bRi (pc := 136) (c_VN cl4 hs (p_X4_foresee hl x28 x29 x32 h12) y_X4_foresee tw1224 dX11_helpfulHandOn_136 rfl (st := []) rfl (Nat.le_of_ble_eq_true rfl) (Nat.le_of_ble_eq_true rfl) (Nat.le_of_ble_eq_true rfl)) (fun x33 h13 => ?_)
          refine g_istore (pc := 139) (lv' := [(5, .int x33), (0, .ref (e_z E + x1)), (1, .int x2), (2, .int x13), (3, .int x19), (4, .int x21)]) dX11_helpfulHandOn_139 (Nat.le_of_ble_eq_true rfl) rfl ?_
          refine g_aload_n (pc := 141) dX11_helpfulHandOn_141 1 rfl ?_
          refine g_getr (pc := 142) cl11 (Nat.le_of_ble_eq_true rfl) fk496 (fun _ _ _ => rfl) dX11_helpfulHandOn_142 (fun x34 => ?_)
          refine g_iload_n (pc := 145) dX11_helpfulHandOn_145 3 rfl ?_
          refine g_gS (fun hs => ?_)
          refine g_bRv (pc := 146) (c_VN cl10 hs (p_X10_dropHandOn hl x34 x13 h13) y_X10_dropHandOn tw1392 dX11_helpfulHandOn_146 rfl (st := []) rfl (Nat.le_of_ble_eq_true rfl) (Nat.le_of_ble_eq_true rfl) (Nat.le_of_ble_eq_true rfl)) (fun _ h14 => ?_)
          refine g_iload (pc := 149) dX11_helpfulHandOn_149 0 rfl ?_
          refine g_ifeq (pc := 151) (tgt := 162) dX11_helpfulHandOn_151 rfl ?_ ?_
          · refine g_lv [1, 2, 3, 4, 5] rfl ?_
            exact hk162 h14
          · refine g_lv [3, 5] rfl ?_
            exact hk154 x13 x21 h14
        · exact hk162 h10
      · refine g_lv [0, 1, 2] rfl ?_
        exact hk168 h9
    · refine g_lv [] rfl ?_
      exact hk174 h6
  · exact g_throwEW (pc := 28) rfl exf_ISE exn tx_25 ⟨tw542, rfl, rfl⟩ exi_ISE (xw_of exw_ISE ⟨tw585, rfl, rfl⟩) dX11_helpfulHandOn_28 dX11_helpfulHandOn_31 dX11_helpfulHandOn_32 dX11_helpfulHandOn_35 dX11_helpfulHandOn_38 (Nat.le_of_ble_eq_true rfl) (Nat.le_of_ble_eq_true rfl)
theorem p_X11_helpfulHandOn {l : Launch} {E : aE} (hl : l.stackTraces = false) (x1 : Nat) (x2 : Int32) (h0 : aH) : MO (eT (fun (v : Int32) => some (.int v))) l E yX11_helpfulHandOn (.code yX11_helpfulHandOn cX11_helpfulHandOn 6 (some .int)) 7 128 [.ref (e_z E + x1), .int x2] h0 (m_X11_helpfulHandOn x1 x2 h0) := g_met hl (by decide +kernel) (Nat.le_of_ble_eq_true rfl) (b_X11_helpfulHandOn hl _ _ x1 x2 h0)
theorem dX11_helpfulPager_0 : decode cX11_helpfulPager 0 = .ok (.aload_n 0, 1) := by decide +kernel
theorem dX11_helpfulPager_1 : decode cX11_helpfulPager 1 = .ok (.iload_n 1, 1) := by decide +kernel
theorem dX11_helpfulPager_2 : decode cX11_helpfulPager 2 = .ok (.invokevirtual 338, 3) := by decide +kernel
theorem dX11_helpfulPager_5 : decode cX11_helpfulPager 5 = .ok (.bipush 12, 2) := by decide +kernel
theorem dX11_helpfulPager_7 : decode cX11_helpfulPager 7 = .ok (.idiv, 1) := by decide +kernel
theorem dX11_helpfulPager_8 : decode cX11_helpfulPager 8 = .ok (.ireturn, 1) := by decide +kernel
abbrev M_X11_helpfulPager : aM := (yX11_helpfulPager.cls, cX11_helpfulPager, 2, (some .int), [], yX11_helpfulPager.name == "<init>")
abbrev J_X11_helpfulPager (l : Launch) (E : aE) (n0 m0 : Nat) := GG (eT (fun (v : Int32) => some (.int v))) l E M_X11_helpfulPager 8 153 n0 m0
theorem b_X11_helpfulPager {l : Launch} {E : aE} (hl : l.stackTraces = false) (n0 m0 : Nat) (x1 : Nat) (x2 : Int32) (h0 : aH) : J_X11_helpfulPager l E n0 m0 0 [(0, .ref (e_z E + x1)), (1, .int x2)] [] h0 (m_X11_helpfulPager x1 x2 h0) := by
  unfold m_X11_helpfulPager
  refine g_aload_n (pc := 0) dX11_helpfulPager_0 0 rfl ?_
  refine g_iload_n (pc := 1) dX11_helpfulPager_1 1 rfl ?_
  refine g_gS (fun hs => ?_)
  refine g_bXi (pc := 2) rfl (c_V cl11 hs (p_X11_helpfulHandOn hl x1 x2 h0) y_X11_helpfulHandOn tw1383 dX11_helpfulPager_2 rfl (st := []) rfl (Nat.le_of_ble_eq_true rfl) (Nat.le_of_ble_eq_true rfl) (Nat.le_of_ble_eq_true rfl)) (fun x3 h1 => ?_)
  refine g_bipush (pc := 5) dX11_helpfulPager_5 cb_12 ?_
  refine g_idiv (pc := 7) dX11_helpfulPager_7 (fun x4 => ?_)
  exact g_ret (pc := 8) rfl (isRet_i _) dX11_helpfulPager_8 rfl
theorem p_X11_helpfulPager {l : Launch} {E : aE} (hl : l.stackTraces = false) (x1 : Nat) (x2 : Int32) (h0 : aH) : MO (eT (fun (v : Int32) => some (.int v))) l E yX11_helpfulPager (.code yX11_helpfulPager cX11_helpfulPager 2 (some .int)) 8 153 [.ref (e_z E + x1), .int x2] h0 (m_X11_helpfulPager x1 x2 h0) := g_met hl (by decide +kernel) (Nat.le_of_ble_eq_true rfl) (b_X11_helpfulPager hl _ _ x1 x2 h0)
theorem dX11_helpfulPerson_0 : decode cX11_helpfulPerson 0 = .ok (.aload_n 0, 1) := by decide +kernel
theorem dX11_helpfulPerson_1 : decode cX11_helpfulPerson 1 = .ok (.iload_n 1, 1) := by decide +kernel
theorem dX11_helpfulPerson_2 : decode cX11_helpfulPerson 2 = .ok (.invokevirtual 338, 3) := by decide +kernel
theorem dX11_helpfulPerson_5 : decode cX11_helpfulPerson 5 = .ok (.bipush 12, 2) := by decide +kernel
theorem dX11_helpfulPerson_7 : decode cX11_helpfulPerson 7 = .ok (.irem, 1) := by decide +kernel
theorem dX11_helpfulPerson_8 : decode cX11_helpfulPerson 8 = .ok (.ireturn, 1) := by decide +kernel
abbrev M_X11_helpfulPerson : aM := (yX11_helpfulPerson.cls, cX11_helpfulPerson, 2, (some .int), [], yX11_helpfulPerson.name == "<init>")
abbrev J_X11_helpfulPerson (l : Launch) (E : aE) (n0 m0 : Nat) := GG (eT (fun (v : Int32) => some (.int v))) l E M_X11_helpfulPerson 8 153 n0 m0
theorem b_X11_helpfulPerson {l : Launch} {E : aE} (hl : l.stackTraces = false) (n0 m0 : Nat) (x1 : Nat) (x2 : Int32) (h0 : aH) : J_X11_helpfulPerson l E n0 m0 0 [(0, .ref (e_z E + x1)), (1, .int x2)] [] h0 (m_X11_helpfulPerson x1 x2 h0) := by
  unfold m_X11_helpfulPerson
  refine g_aload_n (pc := 0) dX11_helpfulPerson_0 0 rfl ?_
  refine g_iload_n (pc := 1) dX11_helpfulPerson_1 1 rfl ?_
  refine g_gS (fun hs => ?_)
  refine g_bXi (pc := 2) rfl (c_V cl11 hs (p_X11_helpfulHandOn hl x1 x2 h0) y_X11_helpfulHandOn tw1383 dX11_helpfulPerson_2 rfl (st := []) rfl (Nat.le_of_ble_eq_true rfl) (Nat.le_of_ble_eq_true rfl) (Nat.le_of_ble_eq_true rfl)) (fun x3 h1 => ?_)
  refine g_bipush (pc := 5) dX11_helpfulPerson_5 cb_12 ?_
  refine g_irem (pc := 7) dX11_helpfulPerson_7 (fun x4 => ?_)
  exact g_ret (pc := 8) rfl (isRet_i _) dX11_helpfulPerson_8 rfl
theorem p_X11_helpfulPerson {l : Launch} {E : aE} (hl : l.stackTraces = false) (x1 : Nat) (x2 : Int32) (h0 : aH) : MO (eT (fun (v : Int32) => some (.int v))) l E yX11_helpfulPerson (.code yX11_helpfulPerson cX11_helpfulPerson 2 (some .int)) 8 153 [.ref (e_z E + x1), .int x2] h0 (m_X11_helpfulPerson x1 x2 h0) := g_met hl (by decide +kernel) (Nat.le_of_ble_eq_true rfl) (b_X11_helpfulPerson hl _ _ x1 x2 h0)
theorem dX11_call_0 : decode cX11_call 0 = .ok (.aload_n 0, 1) := by decide +kernel
theorem dX11_call_1 : decode cX11_call 1 = .ok (.iload_n 1, 1) := by decide +kernel
theorem dX11_call_2 : decode cX11_call 2 = .ok (.invokevirtual 277, 3) := by decide +kernel
theorem dX11_call_5 : decode cX11_call 5 = .ok (.aload_n 0, 1) := by decide +kernel
theorem dX11_call_6 : decode cX11_call 6 = .ok (.getfield 37, 3) := by decide +kernel
theorem dX11_call_9 : decode cX11_call 9 = .ok (.getfield 131, 3) := by decide +kernel
theorem dX11_call_12 : decode cX11_call 12 = .ok (.getfield 135, 3) := by decide +kernel
theorem dX11_call_15 : decode cX11_call 15 = .ok (.bipush 16, 2) := by decide +kernel
theorem dX11_call_17 : decode cX11_call 17 = .ok (.if_icmp .lt 14, 3) := by decide +kernel
theorem dX11_call_20 : decode cX11_call 20 = .ok (.new 74, 3) := by decide +kernel
theorem dX11_call_23 : decode cX11_call 23 = .ok (.dup, 1) := by decide +kernel
theorem dX11_call_24 : decode cX11_call 24 = .ok (.ldc_w 355, 3) := by decide +kernel
theorem dX11_call_27 : decode cX11_call 27 = .ok (.invokespecial 78, 3) := by decide +kernel
theorem dX11_call_30 : decode cX11_call 30 = .ok (.athrow, 1) := by decide +kernel
theorem dX11_call_31 : decode cX11_call 31 = .ok (.aload_n 0, 1) := by decide +kernel
theorem dX11_call_32 : decode cX11_call 32 = .ok (.getfield 56, 3) := by decide +kernel
theorem dX11_call_35 : decode cX11_call 35 = .ok (.aload_n 0, 1) := by decide +kernel
theorem dX11_call_36 : decode cX11_call 36 = .ok (.getfield 37, 3) := by decide +kernel
theorem dX11_call_39 : decode cX11_call 39 = .ok (.invokevirtual 357, 3) := by decide +kernel
theorem dX11_call_42 : decode cX11_call 42 = .ok (.aload_n 0, 1) := by decide +kernel
theorem dX11_call_43 : decode cX11_call 43 = .ok (.getfield 49, 3) := by decide +kernel
theorem dX11_call_46 : decode cX11_call 46 = .ok (.aload_n 0, 1) := by decide +kernel
theorem dX11_call_47 : decode cX11_call 47 = .ok (.getfield 37, 3) := by decide +kernel
theorem dX11_call_50 : decode cX11_call 50 = .ok (.aload_n 0, 1) := by decide +kernel
theorem dX11_call_51 : decode cX11_call 51 = .ok (.getfield 25, 3) := by decide +kernel
theorem dX11_call_54 : decode cX11_call 54 = .ok (.getfield 280, 3) := by decide +kernel
theorem dX11_call_57 : decode cX11_call 57 = .ok (.iload_n 1, 1) := by decide +kernel
theorem dX11_call_58 : decode cX11_call 58 = .ok (.aaload, 1) := by decide +kernel
theorem dX11_call_59 : decode cX11_call 59 = .ok (.invokevirtual 284, 3) := by decide +kernel
theorem dX11_call_62 : decode cX11_call 62 = .ok (.pop, 1) := by decide +kernel
theorem dX11_call_63 : decode cX11_call 63 = .ok (.aload_n 0, 1) := by decide +kernel
theorem dX11_call_64 : decode cX11_call 64 = .ok (.getfield 49, 3) := by decide +kernel
theorem dX11_call_67 : decode cX11_call 67 = .ok (.aload_n 0, 1) := by decide +kernel
theorem dX11_call_68 : decode cX11_call 68 = .ok (.getfield 25, 3) := by decide +kernel
theorem dX11_call_71 : decode cX11_call 71 = .ok (.getfield 280, 3) := by decide +kernel
theorem dX11_call_74 : decode cX11_call 74 = .ok (.iload_n 1, 1) := by decide +kernel
theorem dX11_call_75 : decode cX11_call 75 = .ok (.aaload, 1) := by decide +kernel
theorem dX11_call_76 : decode cX11_call 76 = .ok (.invokevirtual 360, 3) := by decide +kernel
theorem dX11_call_79 : decode cX11_call 79 = .ok (.ireturn, 1) := by decide +kernel
abbrev M_X11_call : aM := (yX11_call.cls, cX11_call, 2, (some .int), [], yX11_call.name == "<init>")
abbrev J_X11_call (l : Launch) (E : aE) (n0 m0 : Nat) := GG (eT (fun (v : Int32) => some (.int v))) l E M_X11_call 7 151 n0 m0
theorem b_X11_call {l : Launch} {E : aE} (hl : l.stackTraces = false) (n0 m0 : Nat) (x1 : Nat) (x2 : Int32) (h0 : aH) : J_X11_call l E n0 m0 0 [(0, .ref (e_z E + x1)), (1, .int x2)] [] h0 (m_X11_call x1 x2 h0) := by
  unfold m_X11_call
  refine g_aload_n (pc := 0) dX11_call_0 0 rfl ?_
  refine g_iload_n (pc := 1) dX11_call_1 1 rfl ?_
  refine g_gS (fun hs => ?_)
  refine g_bXv (pc := 2) rfl (c_V cl11 hs (p_X11_needKind hl x1 x2 h0) y_X11_needKind tw1219 dX11_call_2 rfl (st := []) rfl (Nat.le_of_ble_eq_true rfl) (Nat.le_of_ble_eq_true rfl) (Nat.le_of_ble_eq_true rfl)) (fun _ h1 => ?_)
  refine g_aload_n (pc := 5) dX11_call_5 0 rfl ?_
  refine g_getr (pc := 6) cl11 (Nat.le_of_ble_eq_true rfl) fk495 (fun _ _ _ => rfl) dX11_call_6 (fun x3 => ?_)
  refine g_getr (pc := 9) cl10 (Nat.le_of_ble_eq_true rfl) fk379 (fun _ _ _ => rfl) dX11_call_9 (fun x4 => ?_)
  refine g_geti (pc := 12) cl0 (Nat.le_of_ble_eq_true rfl) fk315 (fun _ _ _ => rfl) dX11_call_12 (fun x5 => ?_)
  refine g_bipush (pc := 15) dX11_call_15 cb_16 ?_
  refine g_icmplt (pc := 17) (tgt := 31) dX11_call_17 rfl ?_ ?_
  · refine g_aload_n (pc := 31) dX11_call_31 0 rfl ?_
    refine g_getr (pc := 32) cl11 (Nat.le_of_ble_eq_true rfl) fk498 (fun _ _ _ => rfl) dX11_call_32 (fun x6 => ?_)
    refine g_aload_n (pc := 35) dX11_call_35 0 rfl ?_
    refine g_getr (pc := 36) cl11 (Nat.le_of_ble_eq_true rfl) fk495 (fun _ _ _ => rfl) dX11_call_36 (fun x7 => ?_)
    refine g_gS (fun hs => ?_)
    refine g_bRv (pc := 39) (c_VN cl2 hs (p_X2_keep hl x6 x7 h1) y_X2_keep tw1412 dX11_call_39 rfl (st := []) rfl (Nat.le_of_ble_eq_true rfl) (Nat.le_of_ble_eq_true rfl) (Nat.le_of_ble_eq_true rfl)) (fun _ h2 => ?_)
    refine g_aload_n (pc := 42) dX11_call_42 0 rfl ?_
    refine g_getr (pc := 43) cl11 (Nat.le_of_ble_eq_true rfl) fk497 (fun _ _ _ => rfl) dX11_call_43 (fun x8 => ?_)
    refine g_aload_n (pc := 46) dX11_call_46 0 rfl ?_
    refine g_getr (pc := 47) cl11 (Nat.le_of_ble_eq_true rfl) fk495 (fun _ _ _ => rfl) dX11_call_47 (fun x9 => ?_)
    refine g_aload_n (pc := 50) dX11_call_50 0 rfl ?_
    refine g_getr (pc := 51) cl11 (Nat.le_of_ble_eq_true rfl) fk493 (fun _ _ _ => rfl) dX11_call_51 (fun x10 => ?_)
    refine g_getr (pc := 54) cl8 (Nat.le_of_ble_eq_true rfl) fk273 (fun _ _ _ => rfl) dX11_call_54 (fun x11 => ?_)
    refine g_iload_n (pc := 57) dX11_call_57 1 rfl ?_
    refine g_aald (pc := 58) (t := 8) (Nat.le_of_ble_eq_true rfl) (Nat.le_of_ble_eq_true rfl) dX11_call_58 (fun x12 => ?_)
    refine g_gS (fun hs => ?_)
    refine g_bRi (pc := 59) (c_VN cl4 hs (p_X4_foresee hl x8 x9 x12 h2) y_X4_foresee tw1224 dX11_call_59 rfl (st := []) rfl (Nat.le_of_ble_eq_true rfl) (Nat.le_of_ble_eq_true rfl) (Nat.le_of_ble_eq_true rfl)) (fun x13 h3 => ?_)
    refine g_pop (pc := 62) rfl dX11_call_62 ?_
    refine g_aload_n (pc := 63) dX11_call_63 0 rfl ?_
    refine g_getr (pc := 64) cl11 (Nat.le_of_ble_eq_true rfl) fk497 (fun _ _ _ => rfl) dX11_call_64 (fun x14 => ?_)
    refine g_aload_n (pc := 67) dX11_call_67 0 rfl ?_
    refine g_getr (pc := 68) cl11 (Nat.le_of_ble_eq_true rfl) fk493 (fun _ _ _ => rfl) dX11_call_68 (fun x15 => ?_)
    refine g_getr (pc := 71) cl8 (Nat.le_of_ble_eq_true rfl) fk273 (fun _ _ _ => rfl) dX11_call_71 (fun x16 => ?_)
    refine g_iload_n (pc := 74) dX11_call_74 1 rfl ?_
    refine g_aald (pc := 75) (t := 8) (Nat.le_of_ble_eq_true rfl) (Nat.le_of_ble_eq_true rfl) dX11_call_75 (fun x17 => ?_)
    refine g_gS (fun hs => ?_)
    refine g_bRi (pc := 76) (c_VN cl4 hs (p_X4_carryOut hl x14 x17 h3) y_X4_carryOut tw1421 dX11_call_76 rfl (st := []) rfl (Nat.le_of_ble_eq_true rfl) (Nat.le_of_ble_eq_true rfl) (Nat.le_of_ble_eq_true rfl)) (fun x18 h4 => ?_)
    exact g_ret (pc := 79) rfl (isRet_i _) dX11_call_79 rfl
  · exact g_throwEW (pc := 20) rfl exf_ISE exn tx_27 ⟨tw542, rfl, rfl⟩ exi_ISE (xw_of exw_ISE ⟨tw585, rfl, rfl⟩) dX11_call_20 dX11_call_23 dX11_call_24 dX11_call_27 dX11_call_30 (Nat.le_of_ble_eq_true rfl) (Nat.le_of_ble_eq_true rfl)
theorem p_X11_call {l : Launch} {E : aE} (hl : l.stackTraces = false) (x1 : Nat) (x2 : Int32) (h0 : aH) : MO (eT (fun (v : Int32) => some (.int v))) l E yX11_call (.code yX11_call cX11_call 2 (some .int)) 7 151 [.ref (e_z E + x1), .int x2] h0 (m_X11_call x1 x2 h0) := g_met hl (by decide +kernel) (Nat.le_of_ble_eq_true rfl) (b_X11_call hl _ _ x1 x2 h0)
theorem dX11_handOn_0 : decode cX11_handOn 0 = .ok (.aload_n 0, 1) := by decide +kernel
theorem dX11_handOn_1 : decode cX11_handOn 1 = .ok (.iload_n 1, 1) := by decide +kernel
theorem dX11_handOn_2 : decode cX11_handOn 2 = .ok (.invokevirtual 196, 3) := by decide +kernel
theorem dX11_handOn_5 : decode cX11_handOn 5 = .ok (.aload_n 0, 1) := by decide +kernel
theorem dX11_handOn_6 : decode cX11_handOn 6 = .ok (.iload_n 2, 1) := by decide +kernel
theorem dX11_handOn_7 : decode cX11_handOn 7 = .ok (.invokevirtual 153, 3) := by decide +kernel
theorem dX11_handOn_10 : decode cX11_handOn 10 = .ok (.aload_n 0, 1) := by decide +kernel
theorem dX11_handOn_11 : decode cX11_handOn 11 = .ok (.getfield 37, 3) := by decide +kernel
theorem dX11_handOn_14 : decode cX11_handOn 14 = .ok (.iload_n 1, 1) := by decide +kernel
theorem dX11_handOn_15 : decode cX11_handOn 15 = .ok (.iload_n 2, 1) := by decide +kernel
theorem dX11_handOn_16 : decode cX11_handOn 16 = .ok (.iload_n 3, 1) := by decide +kernel
theorem dX11_handOn_17 : decode cX11_handOn 17 = .ok (.invokevirtual 226, 3) := by decide +kernel
theorem dX11_handOn_20 : decode cX11_handOn 20 = .ok (.ifCond .eq 14, 3) := by decide +kernel
theorem dX11_handOn_23 : decode cX11_handOn 23 = .ok (.new 74, 3) := by decide +kernel
theorem dX11_handOn_26 : decode cX11_handOn 26 = .ok (.dup, 1) := by decide +kernel
theorem dX11_handOn_27 : decode cX11_handOn 27 = .ok (.ldc_w 363, 3) := by decide +kernel
theorem dX11_handOn_30 : decode cX11_handOn 30 = .ok (.invokespecial 78, 3) := by decide +kernel
theorem dX11_handOn_33 : decode cX11_handOn 33 = .ok (.athrow, 1) := by decide +kernel
theorem dX11_handOn_34 : decode cX11_handOn 34 = .ok (.aload_n 0, 1) := by decide +kernel
theorem dX11_handOn_35 : decode cX11_handOn 35 = .ok (.getfield 56, 3) := by decide +kernel
theorem dX11_handOn_38 : decode cX11_handOn 38 = .ok (.aload_n 0, 1) := by decide +kernel
theorem dX11_handOn_39 : decode cX11_handOn 39 = .ok (.getfield 37, 3) := by decide +kernel
theorem dX11_handOn_42 : decode cX11_handOn 42 = .ok (.invokevirtual 357, 3) := by decide +kernel
theorem dX11_handOn_45 : decode cX11_handOn 45 = .ok (.aload_n 0, 1) := by decide +kernel
theorem dX11_handOn_46 : decode cX11_handOn 46 = .ok (.getfield 37, 3) := by decide +kernel
theorem dX11_handOn_49 : decode cX11_handOn 49 = .ok (.iload_n 1, 1) := by decide +kernel
theorem dX11_handOn_50 : decode cX11_handOn 50 = .ok (.iload_n 2, 1) := by decide +kernel
theorem dX11_handOn_51 : decode cX11_handOn 51 = .ok (.iload_n 3, 1) := by decide +kernel
theorem dX11_handOn_52 : decode cX11_handOn 52 = .ok (.invokevirtual 346, 3) := by decide +kernel
theorem dX11_handOn_55 : decode cX11_handOn 55 = .ok (.aload_n 0, 1) := by decide +kernel
theorem dX11_handOn_56 : decode cX11_handOn 56 = .ok (.getfield 37, 3) := by decide +kernel
theorem dX11_handOn_59 : decode cX11_handOn 59 = .ok (.getfield 199, 3) := by decide +kernel
theorem dX11_handOn_62 : decode cX11_handOn 62 = .ok (.iload_n 1, 1) := by decide +kernel
theorem dX11_handOn_63 : decode cX11_handOn 63 = .ok (.iaload, 1) := by decide +kernel
theorem dX11_handOn_64 : decode cX11_handOn 64 = .ok (.ireturn, 1) := by decide +kernel
abbrev M_X11_handOn : aM := (yX11_handOn.cls, cX11_handOn, 4, (some .int), [], yX11_handOn.name == "<init>")
abbrev J_X11_handOn (l : Launch) (E : aE) (n0 m0 : Nat) := GG (eT (fun (v : Int32) => some (.int v))) l E M_X11_handOn 7 121 n0 m0
theorem b_X11_handOn {l : Launch} {E : aE} (hl : l.stackTraces = false) (n0 m0 : Nat) (x1 : Nat) (x2 : Int32) (x3 : Int32) (x4 : Int32) (h0 : aH) : J_X11_handOn l E n0 m0 0 [(0, .ref (e_z E + x1)), (1, .int x2), (2, .int x3), (3, .int x4)] [] h0 (m_X11_handOn x1 x2 x3 x4 h0) := by
  unfold m_X11_handOn
  refine g_aload_n (pc := 0) dX11_handOn_0 0 rfl ?_
  refine g_iload_n (pc := 1) dX11_handOn_1 1 rfl ?_
  refine g_gS (fun hs => ?_)
  refine g_bXv (pc := 2) rfl (c_V cl11 hs (p_X11_needPager hl x1 x2 h0) y_X11_needPager tw1026 dX11_handOn_2 rfl (st := []) rfl (Nat.le_of_ble_eq_true rfl) (Nat.le_of_ble_eq_true rfl) (Nat.le_of_ble_eq_true rfl)) (fun _ h1 => ?_)
  refine g_aload_n (pc := 5) dX11_handOn_5 0 rfl ?_
  refine g_iload_n (pc := 6) dX11_handOn_6 2 rfl ?_
  refine g_gS (fun hs => ?_)
  refine g_bXv (pc := 7) rfl (c_V cl11 hs (p_X11_needPerson hl x1 x3 h1) y_X11_needPerson tw925 dX11_handOn_7 rfl (st := []) rfl (Nat.le_of_ble_eq_true rfl) (Nat.le_of_ble_eq_true rfl) (Nat.le_of_ble_eq_true rfl)) (fun _ h2 => ?_)
  refine g_aload_n (pc := 10) dX11_handOn_10 0 rfl ?_
  refine g_getr (pc := 11) cl11 (Nat.le_of_ble_eq_true rfl) fk495 (fun _ _ _ => rfl) dX11_handOn_11 (fun x5 => ?_)
  refine g_iload_n (pc := 14) dX11_handOn_14 1 rfl ?_
  refine g_iload_n (pc := 15) dX11_handOn_15 2 rfl ?_
  refine g_iload_n (pc := 16) dX11_handOn_16 3 rfl ?_
  refine g_gS (fun hs => ?_)
  refine g_bRi (pc := 17) (c_VN cl10 hs (p_X10_reasonAgainst hl x5 x2 x3 x4 h2) y_X10_reasonAgainst tw1107 dX11_handOn_17 rfl (st := []) rfl (Nat.le_of_ble_eq_true rfl) (Nat.le_of_ble_eq_true rfl) (Nat.le_of_ble_eq_true rfl)) (fun x6 h3 => ?_)
  refine g_ifeq (pc := 20) (tgt := 34) dX11_handOn_20 rfl ?_ ?_
  · refine g_aload_n (pc := 34) dX11_handOn_34 0 rfl ?_
    refine g_getr (pc := 35) cl11 (Nat.le_of_ble_eq_true rfl) fk498 (fun _ _ _ => rfl) dX11_handOn_35 (fun x7 => ?_)
    refine g_aload_n (pc := 38) dX11_handOn_38 0 rfl ?_
    refine g_getr (pc := 39) cl11 (Nat.le_of_ble_eq_true rfl) fk495 (fun _ _ _ => rfl) dX11_handOn_39 (fun x8 => ?_)
    refine g_gS (fun hs => ?_)
    refine g_bRv (pc := 42) (c_VN cl2 hs (p_X2_keep hl x7 x8 h3) y_X2_keep tw1412 dX11_handOn_42 rfl (st := []) rfl (Nat.le_of_ble_eq_true rfl) (Nat.le_of_ble_eq_true rfl) (Nat.le_of_ble_eq_true rfl)) (fun _ h4 => ?_)
    refine g_aload_n (pc := 45) dX11_handOn_45 0 rfl ?_
    refine g_getr (pc := 46) cl11 (Nat.le_of_ble_eq_true rfl) fk495 (fun _ _ _ => rfl) dX11_handOn_46 (fun x9 => ?_)
    refine g_iload_n (pc := 49) dX11_handOn_49 1 rfl ?_
    refine g_iload_n (pc := 50) dX11_handOn_50 2 rfl ?_
    refine g_iload_n (pc := 51) dX11_handOn_51 3 rfl ?_
    refine g_gS (fun hs => ?_)
    refine g_bRv (pc := 52) (c_VN cl10 hs (p_X10_addHandOn hl x9 x2 x3 x4 h4) y_X10_addHandOn tw1388 dX11_handOn_52 rfl (st := []) rfl (Nat.le_of_ble_eq_true rfl) (Nat.le_of_ble_eq_true rfl) (Nat.le_of_ble_eq_true rfl)) (fun _ h5 => ?_)
    refine g_aload_n (pc := 55) dX11_handOn_55 0 rfl ?_
    refine g_getr (pc := 56) cl11 (Nat.le_of_ble_eq_true rfl) fk495 (fun _ _ _ => rfl) dX11_handOn_56 (fun x10 => ?_)
    refine g_getr (pc := 59) cl10 (Nat.le_of_ble_eq_true rfl) fk367 (fun _ _ _ => rfl) dX11_handOn_59 (fun x11 => ?_)
    refine g_iload_n (pc := 62) dX11_handOn_62 1 rfl ?_
    refine g_iald (pc := 63) dX11_handOn_63 (fun x12 => ?_)
    exact g_ret (pc := 64) rfl (isRet_i _) dX11_handOn_64 rfl
  · exact g_throwEW (pc := 23) rfl exf_ISE exn tx_28 ⟨tw542, rfl, rfl⟩ exi_ISE (xw_of exw_ISE ⟨tw585, rfl, rfl⟩) dX11_handOn_23 dX11_handOn_26 dX11_handOn_27 dX11_handOn_30 dX11_handOn_33 (Nat.le_of_ble_eq_true rfl) (Nat.le_of_ble_eq_true rfl)
theorem p_X11_handOn {l : Launch} {E : aE} (hl : l.stackTraces = false) (x1 : Nat) (x2 : Int32) (x3 : Int32) (x4 : Int32) (h0 : aH) : MO (eT (fun (v : Int32) => some (.int v))) l E yX11_handOn (.code yX11_handOn cX11_handOn 4 (some .int)) 7 121 [.ref (e_z E + x1), .int x2, .int x3, .int x4] h0 (m_X11_handOn x1 x2 x3 x4 h0) := g_met hl (by decide +kernel) (Nat.le_of_ble_eq_true rfl) (b_X11_handOn hl _ _ x1 x2 x3 x4 h0)
theorem dX11_giveBack_0 : decode cX11_giveBack 0 = .ok (.aload_n 0, 1) := by decide +kernel
theorem dX11_giveBack_1 : decode cX11_giveBack 1 = .ok (.iload_n 1, 1) := by decide +kernel
theorem dX11_giveBack_2 : decode cX11_giveBack 2 = .ok (.invokevirtual 196, 3) := by decide +kernel
theorem dX11_giveBack_5 : decode cX11_giveBack 5 = .ok (.aload_n 0, 1) := by decide +kernel
theorem dX11_giveBack_6 : decode cX11_giveBack 6 = .ok (.getfield 37, 3) := by decide +kernel
theorem dX11_giveBack_9 : decode cX11_giveBack 9 = .ok (.getfield 199, 3) := by decide +kernel
theorem dX11_giveBack_12 : decode cX11_giveBack 12 = .ok (.iload_n 1, 1) := by decide +kernel
theorem dX11_giveBack_13 : decode cX11_giveBack 13 = .ok (.iaload, 1) := by decide +kernel
theorem dX11_giveBack_14 : decode cX11_giveBack 14 = .ok (.ifCond .ne 14, 3) := by decide +kernel
theorem dX11_giveBack_17 : decode cX11_giveBack 17 = .ok (.new 74, 3) := by decide +kernel
theorem dX11_giveBack_20 : decode cX11_giveBack 20 = .ok (.dup, 1) := by decide +kernel
theorem dX11_giveBack_21 : decode cX11_giveBack 21 = .ok (.ldc_w 365, 3) := by decide +kernel
theorem dX11_giveBack_24 : decode cX11_giveBack 24 = .ok (.invokespecial 78, 3) := by decide +kernel
theorem dX11_giveBack_27 : decode cX11_giveBack 27 = .ok (.athrow, 1) := by decide +kernel
theorem dX11_giveBack_28 : decode cX11_giveBack 28 = .ok (.aload_n 0, 1) := by decide +kernel
theorem dX11_giveBack_29 : decode cX11_giveBack 29 = .ok (.getfield 56, 3) := by decide +kernel
theorem dX11_giveBack_32 : decode cX11_giveBack 32 = .ok (.aload_n 0, 1) := by decide +kernel
theorem dX11_giveBack_33 : decode cX11_giveBack 33 = .ok (.getfield 37, 3) := by decide +kernel
theorem dX11_giveBack_36 : decode cX11_giveBack 36 = .ok (.invokevirtual 357, 3) := by decide +kernel
theorem dX11_giveBack_39 : decode cX11_giveBack 39 = .ok (.aload_n 0, 1) := by decide +kernel
theorem dX11_giveBack_40 : decode cX11_giveBack 40 = .ok (.getfield 37, 3) := by decide +kernel
theorem dX11_giveBack_43 : decode cX11_giveBack 43 = .ok (.iload_n 1, 1) := by decide +kernel
theorem dX11_giveBack_44 : decode cX11_giveBack 44 = .ok (.invokevirtual 350, 3) := by decide +kernel
theorem dX11_giveBack_47 : decode cX11_giveBack 47 = .ok (.aload_n 0, 1) := by decide +kernel
theorem dX11_giveBack_48 : decode cX11_giveBack 48 = .ok (.getfield 37, 3) := by decide +kernel
theorem dX11_giveBack_51 : decode cX11_giveBack 51 = .ok (.iload_n 1, 1) := by decide +kernel
theorem dX11_giveBack_52 : decode cX11_giveBack 52 = .ok (.aload_n 0, 1) := by decide +kernel
theorem dX11_giveBack_53 : decode cX11_giveBack 53 = .ok (.getfield 37, 3) := by decide +kernel
theorem dX11_giveBack_56 : decode cX11_giveBack 56 = .ok (.getfield 144, 3) := by decide +kernel
theorem dX11_giveBack_59 : decode cX11_giveBack 59 = .ok (.invokevirtual 218, 3) := by decide +kernel
theorem dX11_giveBack_62 : decode cX11_giveBack 62 = .ok (.ireturn, 1) := by decide +kernel
abbrev M_X11_giveBack : aM := (yX11_giveBack.cls, cX11_giveBack, 2, (some .int), [], yX11_giveBack.name == "<init>")
abbrev J_X11_giveBack (l : Launch) (E : aE) (n0 m0 : Nat) := GG (eT (fun (v : Int32) => some (.int v))) l E M_X11_giveBack 7 114 n0 m0
theorem b_X11_giveBack {l : Launch} {E : aE} (hl : l.stackTraces = false) (n0 m0 : Nat) (x1 : Nat) (x2 : Int32) (h0 : aH) : J_X11_giveBack l E n0 m0 0 [(0, .ref (e_z E + x1)), (1, .int x2)] [] h0 (m_X11_giveBack x1 x2 h0) := by
  unfold m_X11_giveBack
  refine g_aload_n (pc := 0) dX11_giveBack_0 0 rfl ?_
  refine g_iload_n (pc := 1) dX11_giveBack_1 1 rfl ?_
  refine g_gS (fun hs => ?_)
  refine g_bXv (pc := 2) rfl (c_V cl11 hs (p_X11_needPager hl x1 x2 h0) y_X11_needPager tw1026 dX11_giveBack_2 rfl (st := []) rfl (Nat.le_of_ble_eq_true rfl) (Nat.le_of_ble_eq_true rfl) (Nat.le_of_ble_eq_true rfl)) (fun _ h1 => ?_)
  refine g_aload_n (pc := 5) dX11_giveBack_5 0 rfl ?_
  refine g_getr (pc := 6) cl11 (Nat.le_of_ble_eq_true rfl) fk495 (fun _ _ _ => rfl) dX11_giveBack_6 (fun x3 => ?_)
  refine g_getr (pc := 9) cl10 (Nat.le_of_ble_eq_true rfl) fk367 (fun _ _ _ => rfl) dX11_giveBack_9 (fun x4 => ?_)
  refine g_iload_n (pc := 12) dX11_giveBack_12 1 rfl ?_
  refine g_iald (pc := 13) dX11_giveBack_13 (fun x5 => ?_)
  refine g_ifne (pc := 14) (tgt := 28) dX11_giveBack_14 rfl ?_ ?_
  · exact g_throwEW (pc := 17) rfl exf_ISE exn tx_29 ⟨tw542, rfl, rfl⟩ exi_ISE (xw_of exw_ISE ⟨tw585, rfl, rfl⟩) dX11_giveBack_17 dX11_giveBack_20 dX11_giveBack_21 dX11_giveBack_24 dX11_giveBack_27 (Nat.le_of_ble_eq_true rfl) (Nat.le_of_ble_eq_true rfl)
  · refine g_aload_n (pc := 28) dX11_giveBack_28 0 rfl ?_
    refine g_getr (pc := 29) cl11 (Nat.le_of_ble_eq_true rfl) fk498 (fun _ _ _ => rfl) dX11_giveBack_29 (fun x6 => ?_)
    refine g_aload_n (pc := 32) dX11_giveBack_32 0 rfl ?_
    refine g_getr (pc := 33) cl11 (Nat.le_of_ble_eq_true rfl) fk495 (fun _ _ _ => rfl) dX11_giveBack_33 (fun x7 => ?_)
    refine g_gS (fun hs => ?_)
    refine g_bRv (pc := 36) (c_VN cl2 hs (p_X2_keep hl x6 x7 h1) y_X2_keep tw1412 dX11_giveBack_36 rfl (st := []) rfl (Nat.le_of_ble_eq_true rfl) (Nat.le_of_ble_eq_true rfl) (Nat.le_of_ble_eq_true rfl)) (fun _ h2 => ?_)
    refine g_aload_n (pc := 39) dX11_giveBack_39 0 rfl ?_
    refine g_getr (pc := 40) cl11 (Nat.le_of_ble_eq_true rfl) fk495 (fun _ _ _ => rfl) dX11_giveBack_40 (fun x8 => ?_)
    refine g_iload_n (pc := 43) dX11_giveBack_43 1 rfl ?_
    refine g_gS (fun hs => ?_)
    refine g_bRv (pc := 44) (c_VN cl10 hs (p_X10_dropHandOn hl x8 x2 h2) y_X10_dropHandOn tw1392 dX11_giveBack_44 rfl (st := []) rfl (Nat.le_of_ble_eq_true rfl) (Nat.le_of_ble_eq_true rfl) (Nat.le_of_ble_eq_true rfl)) (fun _ h3 => ?_)
    refine g_aload_n (pc := 47) dX11_giveBack_47 0 rfl ?_
    refine g_getr (pc := 48) cl11 (Nat.le_of_ble_eq_true rfl) fk495 (fun _ _ _ => rfl) dX11_giveBack_48 (fun x9 => ?_)
    refine g_iload_n (pc := 51) dX11_giveBack_51 1 rfl ?_
    refine g_aload_n (pc := 52) dX11_giveBack_52 0 rfl ?_
    refine g_getr (pc := 53) cl11 (Nat.le_of_ble_eq_true rfl) fk495 (fun _ _ _ => rfl) dX11_giveBack_53 (fun x10 => ?_)
    refine g_geti (pc := 56) cl10 (Nat.le_of_ble_eq_true rfl) fk351 (fun _ _ _ => rfl) dX11_giveBack_56 (fun x11 => ?_)
    refine g_gS (fun hs => ?_)
    refine g_bRi (pc := 59) (c_VN cl10 hs (p_X10_holderThen hl x9 x2 x11 h3) y_X10_holderThen tw1082 dX11_giveBack_59 rfl (st := []) rfl (Nat.le_of_ble_eq_true rfl) (Nat.le_of_ble_eq_true rfl) (Nat.le_of_ble_eq_true rfl)) (fun x12 h4 => ?_)
    exact g_ret (pc := 62) rfl (isRet_i _) dX11_giveBack_62 rfl
theorem p_X11_giveBack {l : Launch} {E : aE} (hl : l.stackTraces = false) (x1 : Nat) (x2 : Int32) (h0 : aH) : MO (eT (fun (v : Int32) => some (.int v))) l E yX11_giveBack (.code yX11_giveBack cX11_giveBack 2 (some .int)) 7 114 [.ref (e_z E + x1), .int x2] h0 (m_X11_giveBack x1 x2 h0) := g_met hl (by decide +kernel) (Nat.le_of_ble_eq_true rfl) (b_X11_giveBack hl _ _ x1 x2 h0)
theorem dX11_pass_0 : decode cX11_pass 0 = .ok (.iload_n 1, 1) := by decide +kernel
theorem dX11_pass_1 : decode cX11_pass 1 = .ok (.iconst 1, 1) := by decide +kernel
theorem dX11_pass_2 : decode cX11_pass 2 = .ok (.if_icmp .lt 10, 3) := by decide +kernel
theorem dX11_pass_5 : decode cX11_pass 5 = .ok (.iload_n 1, 1) := by decide +kernel
theorem dX11_pass_6 : decode cX11_pass 6 = .ok (.sipush 1440, 3) := by decide +kernel
theorem dX11_pass_9 : decode cX11_pass 9 = .ok (.if_icmp .le 13, 3) := by decide +kernel
theorem dX11_pass_12 : decode cX11_pass 12 = .ok (.new 94, 3) := by decide +kernel
theorem dX11_pass_15 : decode cX11_pass 15 = .ok (.dup, 1) := by decide +kernel
theorem dX11_pass_16 : decode cX11_pass 16 = .ok (.ldc 221, 2) := by decide +kernel
theorem dX11_pass_18 : decode cX11_pass 18 = .ok (.invokespecial 98, 3) := by decide +kernel
theorem dX11_pass_21 : decode cX11_pass 21 = .ok (.athrow, 1) := by decide +kernel
theorem dX11_pass_22 : decode cX11_pass 22 = .ok (.aload_n 0, 1) := by decide +kernel
theorem dX11_pass_23 : decode cX11_pass 23 = .ok (.getfield 37, 3) := by decide +kernel
theorem dX11_pass_26 : decode cX11_pass 26 = .ok (.getfield 144, 3) := by decide +kernel
theorem dX11_pass_29 : decode cX11_pass 29 = .ok (.iload_n 1, 1) := by decide +kernel
theorem dX11_pass_30 : decode cX11_pass 30 = .ok (.iadd, 1) := by decide +kernel
theorem dX11_pass_31 : decode cX11_pass 31 = .ok (.sipush 20160, 3) := by decide +kernel
theorem dX11_pass_34 : decode cX11_pass 34 = .ok (.if_icmp .le 14, 3) := by decide +kernel
theorem dX11_pass_37 : decode cX11_pass 37 = .ok (.new 74, 3) := by decide +kernel
theorem dX11_pass_40 : decode cX11_pass 40 = .ok (.dup, 1) := by decide +kernel
theorem dX11_pass_41 : decode cX11_pass 41 = .ok (.ldc_w 367, 3) := by decide +kernel
theorem dX11_pass_44 : decode cX11_pass 44 = .ok (.invokespecial 78, 3) := by decide +kernel
theorem dX11_pass_47 : decode cX11_pass 47 = .ok (.athrow, 1) := by decide +kernel
theorem dX11_pass_48 : decode cX11_pass 48 = .ok (.aload_n 0, 1) := by decide +kernel
theorem dX11_pass_49 : decode cX11_pass 49 = .ok (.getfield 56, 3) := by decide +kernel
theorem dX11_pass_52 : decode cX11_pass 52 = .ok (.aload_n 0, 1) := by decide +kernel
theorem dX11_pass_53 : decode cX11_pass 53 = .ok (.getfield 37, 3) := by decide +kernel
theorem dX11_pass_56 : decode cX11_pass 56 = .ok (.invokevirtual 357, 3) := by decide +kernel
theorem dX11_pass_59 : decode cX11_pass 59 = .ok (.aload_n 0, 1) := by decide +kernel
theorem dX11_pass_60 : decode cX11_pass 60 = .ok (.getfield 37, 3) := by decide +kernel
theorem dX11_pass_63 : decode cX11_pass 63 = .ok (.iload_n 1, 1) := by decide +kernel
theorem dX11_pass_64 : decode cX11_pass 64 = .ok (.invokevirtual 333, 3) := by decide +kernel
theorem dX11_pass_67 : decode cX11_pass 67 = .ok (.ireturn, 1) := by decide +kernel
abbrev M_X11_pass : aM := (yX11_pass.cls, cX11_pass, 2, (some .int), [], yX11_pass.name == "<init>")
abbrev J_X11_pass (l : Launch) (E : aE) (n0 m0 : Nat) := GG (eT (fun (v : Int32) => some (.int v))) l E M_X11_pass 6 125 n0 m0
theorem b_X11_pass {l : Launch} {E : aE} (hl : l.stackTraces = false) (n0 m0 : Nat) (x1 : Nat) (x2 : Int32) (h0 : aH) : J_X11_pass l E n0 m0 0 [(0, .ref (e_z E + x1)), (1, .int x2)] [] h0 (m_X11_pass x1 x2 h0) := by
  unfold m_X11_pass
  refine g_iload_n (pc := 0) dX11_pass_0 1 rfl ?_
  refine g_iconst (pc := 1) dX11_pass_1 ci_1 ?_
  refine g_join (fun k => ∀ (h1 : aH), J_X11_pass l E n0 m0 12 [] [] h1 (k h1)) (fun h1 => ?_) (fun k12 hk12 => ?_)
  · exact g_throwE (pc := 12) rfl exf_IAE exn tx_14 ⟨tw830, rfl, rfl⟩ exi_IAE (xw_of exw_IAE ⟨tw840, rfl, rfl⟩) dX11_pass_12 dX11_pass_15 dX11_pass_16 dX11_pass_18 dX11_pass_21 (Nat.le_of_ble_eq_true rfl) (Nat.le_of_ble_eq_true rfl)
  refine g_icmplt (pc := 2) (tgt := 12) dX11_pass_2 rfl ?_ ?_
  · refine g_lv [] rfl ?_
    exact hk12 h0
  · refine g_iload_n (pc := 5) dX11_pass_5 1 rfl ?_
    refine g_sipush (pc := 6) dX11_pass_6 cs_1440 ?_
    refine g_icmple (pc := 9) (tgt := 22) dX11_pass_9 rfl ?_ ?_
    · refine g_aload_n (pc := 22) dX11_pass_22 0 rfl ?_
      refine g_getr (pc := 23) cl11 (Nat.le_of_ble_eq_true rfl) fk495 (fun _ _ _ => rfl) dX11_pass_23 (fun x3 => ?_)
      refine g_geti (pc := 26) cl10 (Nat.le_of_ble_eq_true rfl) fk351 (fun _ _ _ => rfl) dX11_pass_26 (fun x4 => ?_)
      refine g_iload_n (pc := 29) dX11_pass_29 1 rfl ?_
      refine g_iadd (pc := 30) dX11_pass_30 ?_
      refine g_sipush (pc := 31) dX11_pass_31 cs_20160 ?_
      refine g_icmple (pc := 34) (tgt := 48) dX11_pass_34 rfl ?_ ?_
      · refine g_aload_n (pc := 48) dX11_pass_48 0 rfl ?_
        refine g_getr (pc := 49) cl11 (Nat.le_of_ble_eq_true rfl) fk498 (fun _ _ _ => rfl) dX11_pass_49 (fun x5 => ?_)
        refine g_aload_n (pc := 52) dX11_pass_52 0 rfl ?_
        refine g_getr (pc := 53) cl11 (Nat.le_of_ble_eq_true rfl) fk495 (fun _ _ _ => rfl) dX11_pass_53 (fun x6 => ?_)
        refine g_gS (fun hs => ?_)
        refine g_bRv (pc := 56) (c_VN cl2 hs (p_X2_keep hl x5 x6 h0) y_X2_keep tw1412 dX11_pass_56 rfl (st := []) rfl (Nat.le_of_ble_eq_true rfl) (Nat.le_of_ble_eq_true rfl) (Nat.le_of_ble_eq_true rfl)) (fun _ h2 => ?_)
        refine g_aload_n (pc := 59) dX11_pass_59 0 rfl ?_
        refine g_getr (pc := 60) cl11 (Nat.le_of_ble_eq_true rfl) fk495 (fun _ _ _ => rfl) dX11_pass_60 (fun x7 => ?_)
        refine g_iload_n (pc := 63) dX11_pass_63 1 rfl ?_
        refine g_gS (fun hs => ?_)
        refine g_bRi (pc := 64) (c_VN cl10 hs (p_X10_advance hl x7 x2 h2) y_X10_advance tw1362 dX11_pass_64 rfl (st := []) rfl (Nat.le_of_ble_eq_true rfl) (Nat.le_of_ble_eq_true rfl) (Nat.le_of_ble_eq_true rfl)) (fun x8 h3 => ?_)
        exact g_ret (pc := 67) rfl (isRet_i _) dX11_pass_67 rfl
      · exact g_throwEW (pc := 37) rfl exf_ISE exn tx_30 ⟨tw542, rfl, rfl⟩ exi_ISE (xw_of exw_ISE ⟨tw585, rfl, rfl⟩) dX11_pass_37 dX11_pass_40 dX11_pass_41 dX11_pass_44 dX11_pass_47 (Nat.le_of_ble_eq_true rfl) (Nat.le_of_ble_eq_true rfl)
    · refine g_lv [] rfl ?_
      exact hk12 h0
theorem p_X11_pass {l : Launch} {E : aE} (hl : l.stackTraces = false) (x1 : Nat) (x2 : Int32) (h0 : aH) : MO (eT (fun (v : Int32) => some (.int v))) l E yX11_pass (.code yX11_pass cX11_pass 2 (some .int)) 6 125 [.ref (e_z E + x1), .int x2] h0 (m_X11_pass x1 x2 h0) := g_met hl (by decide +kernel) (Nat.le_of_ble_eq_true rfl) (b_X11_pass hl _ _ x1 x2 h0)
theorem dX11_swapPlaces_0 : decode cX11_swapPlaces 0 = .ok (.aload_n 0, 1) := by decide +kernel
theorem dX11_swapPlaces_1 : decode cX11_swapPlaces 1 = .ok (.iload_n 1, 1) := by decide +kernel
theorem dX11_swapPlaces_2 : decode cX11_swapPlaces 2 = .ok (.invokevirtual 196, 3) := by decide +kernel
theorem dX11_swapPlaces_5 : decode cX11_swapPlaces 5 = .ok (.aload_n 0, 1) := by decide +kernel
theorem dX11_swapPlaces_6 : decode cX11_swapPlaces 6 = .ok (.iload_n 1, 1) := by decide +kernel
theorem dX11_swapPlaces_7 : decode cX11_swapPlaces 7 = .ok (.iload_n 2, 1) := by decide +kernel
theorem dX11_swapPlaces_8 : decode cX11_swapPlaces 8 = .ok (.invokevirtual 210, 3) := by decide +kernel
theorem dX11_swapPlaces_11 : decode cX11_swapPlaces 11 = .ok (.aload_n 0, 1) := by decide +kernel
theorem dX11_swapPlaces_12 : decode cX11_swapPlaces 12 = .ok (.iload_n 1, 1) := by decide +kernel
theorem dX11_swapPlaces_13 : decode cX11_swapPlaces 13 = .ok (.iload_n 3, 1) := by decide +kernel
theorem dX11_swapPlaces_14 : decode cX11_swapPlaces 14 = .ok (.invokevirtual 210, 3) := by decide +kernel
theorem dX11_swapPlaces_17 : decode cX11_swapPlaces 17 = .ok (.iload_n 2, 1) := by decide +kernel
theorem dX11_swapPlaces_18 : decode cX11_swapPlaces 18 = .ok (.iload_n 3, 1) := by decide +kernel
theorem dX11_swapPlaces_19 : decode cX11_swapPlaces 19 = .ok (.if_icmp .ne 14, 3) := by decide +kernel
theorem dX11_swapPlaces_22 : decode cX11_swapPlaces 22 = .ok (.new 94, 3) := by decide +kernel
theorem dX11_swapPlaces_25 : decode cX11_swapPlaces 25 = .ok (.dup, 1) := by decide +kernel
theorem dX11_swapPlaces_26 : decode cX11_swapPlaces 26 = .ok (.ldc_w 369, 3) := by decide +kernel
theorem dX11_swapPlaces_29 : decode cX11_swapPlaces 29 = .ok (.invokespecial 98, 3) := by decide +kernel
theorem dX11_swapPlaces_32 : decode cX11_swapPlaces 32 = .ok (.athrow, 1) := by decide +kernel
theorem dX11_swapPlaces_33 : decode cX11_swapPlaces 33 = .ok (.aload_n 0, 1) := by decide +kernel
theorem dX11_swapPlaces_34 : decode cX11_swapPlaces 34 = .ok (.getfield 37, 3) := by decide +kernel
theorem dX11_swapPlaces_37 : decode cX11_swapPlaces 37 = .ok (.iload_n 1, 1) := by decide +kernel
theorem dX11_swapPlaces_38 : decode cX11_swapPlaces 38 = .ok (.aload_n 0, 1) := by decide +kernel
theorem dX11_swapPlaces_39 : decode cX11_swapPlaces 39 = .ok (.getfield 37, 3) := by decide +kernel
theorem dX11_swapPlaces_42 : decode cX11_swapPlaces 42 = .ok (.getfield 144, 3) := by decide +kernel
theorem dX11_swapPlaces_45 : decode cX11_swapPlaces 45 = .ok (.invokevirtual 371, 3) := by decide +kernel
theorem dX11_swapPlaces_48 : decode cX11_swapPlaces 48 = .ok (.istore 4, 2) := by decide +kernel
theorem dX11_swapPlaces_50 : decode cX11_swapPlaces 50 = .ok (.iload_n 2, 1) := by decide +kernel
theorem dX11_swapPlaces_51 : decode cX11_swapPlaces 51 = .ok (.iload 4, 2) := by decide +kernel
theorem dX11_swapPlaces_53 : decode cX11_swapPlaces 53 = .ok (.if_icmp .eq 9, 3) := by decide +kernel
theorem dX11_swapPlaces_56 : decode cX11_swapPlaces 56 = .ok (.iload_n 3, 1) := by decide +kernel
theorem dX11_swapPlaces_57 : decode cX11_swapPlaces 57 = .ok (.iload 4, 2) := by decide +kernel
theorem dX11_swapPlaces_59 : decode cX11_swapPlaces 59 = .ok (.if_icmp .ne 14, 3) := by decide +kernel
theorem dX11_swapPlaces_62 : decode cX11_swapPlaces 62 = .ok (.new 74, 3) := by decide +kernel
theorem dX11_swapPlaces_65 : decode cX11_swapPlaces 65 = .ok (.dup, 1) := by decide +kernel
theorem dX11_swapPlaces_66 : decode cX11_swapPlaces 66 = .ok (.ldc_w 374, 3) := by decide +kernel
theorem dX11_swapPlaces_69 : decode cX11_swapPlaces 69 = .ok (.invokespecial 78, 3) := by decide +kernel
theorem dX11_swapPlaces_72 : decode cX11_swapPlaces 72 = .ok (.athrow, 1) := by decide +kernel
theorem dX11_swapPlaces_73 : decode cX11_swapPlaces 73 = .ok (.aload_n 0, 1) := by decide +kernel
theorem dX11_swapPlaces_74 : decode cX11_swapPlaces 74 = .ok (.getfield 56, 3) := by decide +kernel
theorem dX11_swapPlaces_77 : decode cX11_swapPlaces 77 = .ok (.aload_n 0, 1) := by decide +kernel
theorem dX11_swapPlaces_78 : decode cX11_swapPlaces 78 = .ok (.getfield 37, 3) := by decide +kernel
theorem dX11_swapPlaces_81 : decode cX11_swapPlaces 81 = .ok (.invokevirtual 357, 3) := by decide +kernel
theorem dX11_swapPlaces_84 : decode cX11_swapPlaces 84 = .ok (.iload_n 1, 1) := by decide +kernel
theorem dX11_swapPlaces_85 : decode cX11_swapPlaces 85 = .ok (.bipush 8, 2) := by decide +kernel
theorem dX11_swapPlaces_87 : decode cX11_swapPlaces 87 = .ok (.imul, 1) := by decide +kernel
theorem dX11_swapPlaces_88 : decode cX11_swapPlaces 88 = .ok (.iload_n 2, 1) := by decide +kernel
theorem dX11_swapPlaces_89 : decode cX11_swapPlaces 89 = .ok (.iadd, 1) := by decide +kernel
theorem dX11_swapPlaces_90 : decode cX11_swapPlaces 90 = .ok (.istore 5, 2) := by decide +kernel
theorem dX11_swapPlaces_92 : decode cX11_swapPlaces 92 = .ok (.iload_n 1, 1) := by decide +kernel
theorem dX11_swapPlaces_93 : decode cX11_swapPlaces 93 = .ok (.bipush 8, 2) := by decide +kernel
theorem dX11_swapPlaces_95 : decode cX11_swapPlaces 95 = .ok (.imul, 1) := by decide +kernel
theorem dX11_swapPlaces_96 : decode cX11_swapPlaces 96 = .ok (.iload_n 3, 1) := by decide +kernel
theorem dX11_swapPlaces_97 : decode cX11_swapPlaces 97 = .ok (.iadd, 1) := by decide +kernel
theorem dX11_swapPlaces_98 : decode cX11_swapPlaces 98 = .ok (.istore 6, 2) := by decide +kernel
theorem dX11_swapPlaces_100 : decode cX11_swapPlaces 100 = .ok (.aload_n 0, 1) := by decide +kernel
theorem dX11_swapPlaces_101 : decode cX11_swapPlaces 101 = .ok (.getfield 37, 3) := by decide +kernel
theorem dX11_swapPlaces_104 : decode cX11_swapPlaces 104 = .ok (.getfield 213, 3) := by decide +kernel
theorem dX11_swapPlaces_107 : decode cX11_swapPlaces 107 = .ok (.iload 5, 2) := by decide +kernel
theorem dX11_swapPlaces_109 : decode cX11_swapPlaces 109 = .ok (.iaload, 1) := by decide +kernel
theorem dX11_swapPlaces_110 : decode cX11_swapPlaces 110 = .ok (.istore 7, 2) := by decide +kernel
theorem dX11_swapPlaces_112 : decode cX11_swapPlaces 112 = .ok (.aload_n 0, 1) := by decide +kernel
theorem dX11_swapPlaces_113 : decode cX11_swapPlaces 113 = .ok (.getfield 37, 3) := by decide +kernel
theorem dX11_swapPlaces_116 : decode cX11_swapPlaces 116 = .ok (.getfield 213, 3) := by decide +kernel
theorem dX11_swapPlaces_119 : decode cX11_swapPlaces 119 = .ok (.iload 5, 2) := by decide +kernel
theorem dX11_swapPlaces_121 : decode cX11_swapPlaces 121 = .ok (.aload_n 0, 1) := by decide +kernel
theorem dX11_swapPlaces_122 : decode cX11_swapPlaces 122 = .ok (.getfield 37, 3) := by decide +kernel
theorem dX11_swapPlaces_125 : decode cX11_swapPlaces 125 = .ok (.getfield 213, 3) := by decide +kernel
theorem dX11_swapPlaces_128 : decode cX11_swapPlaces 128 = .ok (.iload 6, 2) := by decide +kernel
theorem dX11_swapPlaces_130 : decode cX11_swapPlaces 130 = .ok (.iaload, 1) := by decide +kernel
theorem dX11_swapPlaces_131 : decode cX11_swapPlaces 131 = .ok (.iastore, 1) := by decide +kernel
theorem dX11_swapPlaces_132 : decode cX11_swapPlaces 132 = .ok (.aload_n 0, 1) := by decide +kernel
theorem dX11_swapPlaces_133 : decode cX11_swapPlaces 133 = .ok (.getfield 37, 3) := by decide +kernel
theorem dX11_swapPlaces_136 : decode cX11_swapPlaces 136 = .ok (.getfield 213, 3) := by decide +kernel
theorem dX11_swapPlaces_139 : decode cX11_swapPlaces 139 = .ok (.iload 6, 2) := by decide +kernel
theorem dX11_swapPlaces_141 : decode cX11_swapPlaces 141 = .ok (.iload 7, 2) := by decide +kernel
theorem dX11_swapPlaces_143 : decode cX11_swapPlaces 143 = .ok (.iastore, 1) := by decide +kernel
theorem dX11_swapPlaces_144 : decode cX11_swapPlaces 144 = .ok (.aload_n 0, 1) := by decide +kernel
theorem dX11_swapPlaces_145 : decode cX11_swapPlaces 145 = .ok (.getfield 37, 3) := by decide +kernel
theorem dX11_swapPlaces_148 : decode cX11_swapPlaces 148 = .ok (.getfield 213, 3) := by decide +kernel
theorem dX11_swapPlaces_151 : decode cX11_swapPlaces 151 = .ok (.iload 5, 2) := by decide +kernel
theorem dX11_swapPlaces_153 : decode cX11_swapPlaces 153 = .ok (.iaload, 1) := by decide +kernel
theorem dX11_swapPlaces_154 : decode cX11_swapPlaces 154 = .ok (.ireturn, 1) := by decide +kernel
abbrev M_X11_swapPlaces : aM := (yX11_swapPlaces.cls, cX11_swapPlaces, 8, (some .int), [], yX11_swapPlaces.name == "<init>")
abbrev J_X11_swapPlaces (l : Launch) (E : aE) (n0 m0 : Nat) := GG (eT (fun (v : Int32) => some (.int v))) l E M_X11_swapPlaces 7 114 n0 m0
theorem b_X11_swapPlaces {l : Launch} {E : aE} (hl : l.stackTraces = false) (n0 m0 : Nat) (x1 : Nat) (x2 : Int32) (x3 : Int32) (x4 : Int32) (h0 : aH) : J_X11_swapPlaces l E n0 m0 0 [(0, .ref (e_z E + x1)), (1, .int x2), (2, .int x3), (3, .int x4)] [] h0 (m_X11_swapPlaces x1 x2 x3 x4 h0) := by
  unfold m_X11_swapPlaces
  refine g_aload_n (pc := 0) dX11_swapPlaces_0 0 rfl ?_
  refine g_iload_n (pc := 1) dX11_swapPlaces_1 1 rfl ?_
  refine g_gS (fun hs => ?_)
  refine g_bXv (pc := 2) rfl (c_V cl11 hs (p_X11_needPager hl x1 x2 h0) y_X11_needPager tw1026 dX11_swapPlaces_2 rfl (st := []) rfl (Nat.le_of_ble_eq_true rfl) (Nat.le_of_ble_eq_true rfl) (Nat.le_of_ble_eq_true rfl)) (fun _ h1 => ?_)
  refine g_aload_n (pc := 5) dX11_swapPlaces_5 0 rfl ?_
  refine g_iload_n (pc := 6) dX11_swapPlaces_6 1 rfl ?_
  refine g_iload_n (pc := 7) dX11_swapPlaces_7 2 rfl ?_
  refine g_gS (fun hs => ?_)
  refine g_bXv (pc := 8) rfl (c_V cl11 hs (p_X11_needPlace hl x1 x2 x3 h1) y_X11_needPlace tw1069 dX11_swapPlaces_8 rfl (st := []) rfl (Nat.le_of_ble_eq_true rfl) (Nat.le_of_ble_eq_true rfl) (Nat.le_of_ble_eq_true rfl)) (fun _ h2 => ?_)
  refine g_aload_n (pc := 11) dX11_swapPlaces_11 0 rfl ?_
  refine g_iload_n (pc := 12) dX11_swapPlaces_12 1 rfl ?_
  refine g_iload_n (pc := 13) dX11_swapPlaces_13 3 rfl ?_
  refine g_gS (fun hs => ?_)
  refine g_bXv (pc := 14) rfl (c_V cl11 hs (p_X11_needPlace hl x1 x2 x4 h2) y_X11_needPlace tw1069 dX11_swapPlaces_14 rfl (st := []) rfl (Nat.le_of_ble_eq_true rfl) (Nat.le_of_ble_eq_true rfl) (Nat.le_of_ble_eq_true rfl)) (fun _ h3 => ?_)
  refine g_iload_n (pc := 17) dX11_swapPlaces_17 2 rfl ?_
  refine g_iload_n (pc := 18) dX11_swapPlaces_18 3 rfl ?_
  refine g_icmpne (pc := 19) (tgt := 33) dX11_swapPlaces_19 rfl ?_ ?_
  · exact g_throwEW (pc := 22) rfl exf_IAE exn tx_31 ⟨tw830, rfl, rfl⟩ exi_IAE (xw_of exw_IAE ⟨tw840, rfl, rfl⟩) dX11_swapPlaces_22 dX11_swapPlaces_25 dX11_swapPlaces_26 dX11_swapPlaces_29 dX11_swapPlaces_32 (Nat.le_of_ble_eq_true rfl) (Nat.le_of_ble_eq_true rfl)
  · refine g_aload_n (pc := 33) dX11_swapPlaces_33 0 rfl ?_
    refine g_getr (pc := 34) cl11 (Nat.le_of_ble_eq_true rfl) fk495 (fun _ _ _ => rfl) dX11_swapPlaces_34 (fun x5 => ?_)
    refine g_iload_n (pc := 37) dX11_swapPlaces_37 1 rfl ?_
    refine g_aload_n (pc := 38) dX11_swapPlaces_38 0 rfl ?_
    refine g_getr (pc := 39) cl11 (Nat.le_of_ble_eq_true rfl) fk495 (fun _ _ _ => rfl) dX11_swapPlaces_39 (fun x6 => ?_)
    refine g_geti (pc := 42) cl10 (Nat.le_of_ble_eq_true rfl) fk351 (fun _ _ _ => rfl) dX11_swapPlaces_42 (fun x7 => ?_)
    refine g_gS (fun hs => ?_)
    refine g_bRi (pc := 45) (c_VN cl10 hs (p_X10_placeAt hl x5 x2 x7 h3) y_X10_placeAt tw1483 dX11_swapPlaces_45 rfl (st := []) rfl (Nat.le_of_ble_eq_true rfl) (Nat.le_of_ble_eq_true rfl) (Nat.le_of_ble_eq_true rfl)) (fun x8 h4 => ?_)
    refine g_istore (pc := 48) (lv' := [(4, .int x8), (0, .ref (e_z E + x1)), (1, .int x2), (2, .int x3), (3, .int x4)]) dX11_swapPlaces_48 (Nat.le_of_ble_eq_true rfl) rfl ?_
    refine g_iload_n (pc := 50) dX11_swapPlaces_50 3 rfl ?_
    refine g_iload (pc := 51) dX11_swapPlaces_51 0 rfl ?_
    refine g_join (fun k => ∀ (h5 : aH), J_X11_swapPlaces l E n0 m0 62 [] [] h5 (k h5)) (fun h5 => ?_) (fun k62 hk62 => ?_)
    · exact g_throwEW (pc := 62) rfl exf_ISE exn tx_32 ⟨tw542, rfl, rfl⟩ exi_ISE (xw_of exw_ISE ⟨tw585, rfl, rfl⟩) dX11_swapPlaces_62 dX11_swapPlaces_65 dX11_swapPlaces_66 dX11_swapPlaces_69 dX11_swapPlaces_72 (Nat.le_of_ble_eq_true rfl) (Nat.le_of_ble_eq_true rfl)
    refine g_icmpeq (pc := 53) (tgt := 62) dX11_swapPlaces_53 rfl ?_ ?_
    · refine g_lv [] rfl ?_
      exact hk62 h4
    · refine g_iload_n (pc := 56) dX11_swapPlaces_56 4 rfl ?_
      refine g_iload (pc := 57) dX11_swapPlaces_57 0 rfl ?_
      refine g_icmpne (pc := 59) (tgt := 73) dX11_swapPlaces_59 rfl ?_ ?_
      · refine g_lv [] rfl ?_
        exact hk62 h4
      · refine g_aload_n (pc := 73) dX11_swapPlaces_73 1 rfl ?_
        refine g_getr (pc := 74) cl11 (Nat.le_of_ble_eq_true rfl) fk498 (fun _ _ _ => rfl) dX11_swapPlaces_74 (fun x9 => ?_)
        refine g_aload_n (pc := 77) dX11_swapPlaces_77 1 rfl ?_
        refine g_getr (pc := 78) cl11 (Nat.le_of_ble_eq_true rfl) fk495 (fun _ _ _ => rfl) dX11_swapPlaces_78 (fun x10 => ?_)
        refine g_gS (fun hs => ?_)
        refine g_bRv (pc := 81) (c_VN cl2 hs (p_X2_keep hl x9 x10 h4) y_X2_keep tw1412 dX11_swapPlaces_81 rfl (st := []) rfl (Nat.le_of_ble_eq_true rfl) (Nat.le_of_ble_eq_true rfl) (Nat.le_of_ble_eq_true rfl)) (fun _ h6 => ?_)
        refine g_iload_n (pc := 84) dX11_swapPlaces_84 2 rfl ?_
        refine g_bipush (pc := 85) dX11_swapPlaces_85 cb_8 ?_
        refine g_imul (pc := 87) dX11_swapPlaces_87 ?_
        refine g_iload_n (pc := 88) dX11_swapPlaces_88 3 rfl ?_
        refine g_iadd (pc := 89) dX11_swapPlaces_89 ?_
        refine g_topi (fun x11 => ?_)
        refine g_istore (pc := 90) (lv' := [(5, .int x11), (4, .int x8), (0, .ref (e_z E + x1)), (1, .int x2), (2, .int x3), (3, .int x4)]) dX11_swapPlaces_90 (Nat.le_of_ble_eq_true rfl) rfl ?_
        refine g_iload_n (pc := 92) dX11_swapPlaces_92 3 rfl ?_
        refine g_bipush (pc := 93) dX11_swapPlaces_93 cb_8 ?_
        refine g_imul (pc := 95) dX11_swapPlaces_95 ?_
        refine g_iload_n (pc := 96) dX11_swapPlaces_96 5 rfl ?_
        refine g_iadd (pc := 97) dX11_swapPlaces_97 ?_
        refine g_topi (fun x12 => ?_)
        refine g_istore (pc := 98) (lv' := [(6, .int x12), (5, .int x11), (4, .int x8), (0, .ref (e_z E + x1)), (1, .int x2), (2, .int x3), (3, .int x4)]) dX11_swapPlaces_98 (Nat.le_of_ble_eq_true rfl) rfl ?_
        refine g_aload_n (pc := 100) dX11_swapPlaces_100 3 rfl ?_
        refine g_getr (pc := 101) cl11 (Nat.le_of_ble_eq_true rfl) fk495 (fun _ _ _ => rfl) dX11_swapPlaces_101 (fun x13 => ?_)
        refine g_getr (pc := 104) cl10 (Nat.le_of_ble_eq_true rfl) fk364 (fun _ _ _ => rfl) dX11_swapPlaces_104 (fun x14 => ?_)
        refine g_iload (pc := 107) dX11_swapPlaces_107 1 rfl ?_
        refine g_iald (pc := 109) dX11_swapPlaces_109 (fun x15 => ?_)
        refine g_istore (pc := 110) (lv' := [(7, .int x15), (6, .int x12), (5, .int x11), (4, .int x8), (0, .ref (e_z E + x1)), (1, .int x2), (2, .int x3), (3, .int x4)]) dX11_swapPlaces_110 (Nat.le_of_ble_eq_true rfl) rfl ?_
        refine g_aload_n (pc := 112) dX11_swapPlaces_112 4 rfl ?_
        refine g_getr (pc := 113) cl11 (Nat.le_of_ble_eq_true rfl) fk495 (fun _ _ _ => rfl) dX11_swapPlaces_113 (fun x16 => ?_)
        refine g_getr (pc := 116) cl10 (Nat.le_of_ble_eq_true rfl) fk364 (fun _ _ _ => rfl) dX11_swapPlaces_116 (fun x17 => ?_)
        refine g_iload (pc := 119) dX11_swapPlaces_119 2 rfl ?_
        refine g_aload_n (pc := 121) dX11_swapPlaces_121 4 rfl ?_
        refine g_getr (pc := 122) cl11 (Nat.le_of_ble_eq_true rfl) fk495 (fun _ _ _ => rfl) dX11_swapPlaces_122 (fun x18 => ?_)
        refine g_getr (pc := 125) cl10 (Nat.le_of_ble_eq_true rfl) fk364 (fun _ _ _ => rfl) dX11_swapPlaces_125 (fun x19 => ?_)
        refine g_iload (pc := 128) dX11_swapPlaces_128 1 rfl ?_
        refine g_iald (pc := 130) dX11_swapPlaces_130 (fun x20 => ?_)
        refine g_iast (pc := 131) dX11_swapPlaces_131 (fun h7 => ?_)
        refine g_aload_n (pc := 132) dX11_swapPlaces_132 4 rfl ?_
        refine g_getr (pc := 133) cl11 (Nat.le_of_ble_eq_true rfl) fk495 (fun _ _ _ => rfl) dX11_swapPlaces_133 (fun x21 => ?_)
        refine g_getr (pc := 136) cl10 (Nat.le_of_ble_eq_true rfl) fk364 (fun _ _ _ => rfl) dX11_swapPlaces_136 (fun x22 => ?_)
        refine g_iload (pc := 139) dX11_swapPlaces_139 1 rfl ?_
        refine g_iload (pc := 141) dX11_swapPlaces_141 0 rfl ?_
        refine g_iast (pc := 143) dX11_swapPlaces_143 (fun h8 => ?_)
        refine g_aload_n (pc := 144) dX11_swapPlaces_144 4 rfl ?_
        refine g_getr (pc := 145) cl11 (Nat.le_of_ble_eq_true rfl) fk495 (fun _ _ _ => rfl) dX11_swapPlaces_145 (fun x23 => ?_)
        refine g_getr (pc := 148) cl10 (Nat.le_of_ble_eq_true rfl) fk364 (fun _ _ _ => rfl) dX11_swapPlaces_148 (fun x24 => ?_)
        refine g_iload (pc := 151) dX11_swapPlaces_151 2 rfl ?_
        refine g_iald (pc := 153) dX11_swapPlaces_153 (fun x25 => ?_)
        exact g_ret (pc := 154) rfl (isRet_i _) dX11_swapPlaces_154 rfl
theorem p_X11_swapPlaces {l : Launch} {E : aE} (hl : l.stackTraces = false) (x1 : Nat) (x2 : Int32) (x3 : Int32) (x4 : Int32) (h0 : aH) : MO (eT (fun (v : Int32) => some (.int v))) l E yX11_swapPlaces (.code yX11_swapPlaces cX11_swapPlaces 8 (some .int)) 7 114 [.ref (e_z E + x1), .int x2, .int x3, .int x4] h0 (m_X11_swapPlaces x1 x2 x3 x4 h0) := g_met hl (by decide +kernel) (Nat.le_of_ble_eq_true rfl) (b_X11_swapPlaces hl _ _ x1 x2 x3 x4 h0)
theorem dX11_excuse_0 : decode cX11_excuse 0 = .ok (.aload_n 0, 1) := by decide +kernel
theorem dX11_excuse_1 : decode cX11_excuse 1 = .ok (.iload_n 1, 1) := by decide +kernel
theorem dX11_excuse_2 : decode cX11_excuse 2 = .ok (.invokevirtual 153, 3) := by decide +kernel
theorem dX11_excuse_5 : decode cX11_excuse 5 = .ok (.aload_n 0, 1) := by decide +kernel
theorem dX11_excuse_6 : decode cX11_excuse 6 = .ok (.getfield 56, 3) := by decide +kernel
theorem dX11_excuse_9 : decode cX11_excuse 9 = .ok (.aload_n 0, 1) := by decide +kernel
theorem dX11_excuse_10 : decode cX11_excuse 10 = .ok (.getfield 37, 3) := by decide +kernel
theorem dX11_excuse_13 : decode cX11_excuse 13 = .ok (.invokevirtual 357, 3) := by decide +kernel
theorem dX11_excuse_16 : decode cX11_excuse 16 = .ok (.aload_n 0, 1) := by decide +kernel
theorem dX11_excuse_17 : decode cX11_excuse 17 = .ok (.getfield 37, 3) := by decide +kernel
theorem dX11_excuse_20 : decode cX11_excuse 20 = .ok (.iload_n 2, 1) := by decide +kernel
theorem dX11_excuse_21 : decode cX11_excuse 21 = .ok (.ifCond .eq 17, 3) := by decide +kernel
theorem dX11_excuse_24 : decode cX11_excuse 24 = .ok (.aload_n 0, 1) := by decide +kernel
theorem dX11_excuse_25 : decode cX11_excuse 25 = .ok (.getfield 37, 3) := by decide +kernel
theorem dX11_excuse_28 : decode cX11_excuse 28 = .ok (.getfield 376, 3) := by decide +kernel
theorem dX11_excuse_31 : decode cX11_excuse 31 = .ok (.iconst 1, 1) := by decide +kernel
theorem dX11_excuse_32 : decode cX11_excuse 32 = .ok (.iload_n 1, 1) := by decide +kernel
theorem dX11_excuse_33 : decode cX11_excuse 33 = .ok (.ishl, 1) := by decide +kernel
theorem dX11_excuse_34 : decode cX11_excuse 34 = .ok (.ior, 1) := by decide +kernel
theorem dX11_excuse_35 : decode cX11_excuse 35 = .ok (.goto 16, 3) := by decide +kernel
theorem dX11_excuse_38 : decode cX11_excuse 38 = .ok (.aload_n 0, 1) := by decide +kernel
theorem dX11_excuse_39 : decode cX11_excuse 39 = .ok (.getfield 37, 3) := by decide +kernel
theorem dX11_excuse_42 : decode cX11_excuse 42 = .ok (.getfield 376, 3) := by decide +kernel
theorem dX11_excuse_45 : decode cX11_excuse 45 = .ok (.iconst 1, 1) := by decide +kernel
theorem dX11_excuse_46 : decode cX11_excuse 46 = .ok (.iload_n 1, 1) := by decide +kernel
theorem dX11_excuse_47 : decode cX11_excuse 47 = .ok (.ishl, 1) := by decide +kernel
theorem dX11_excuse_48 : decode cX11_excuse 48 = .ok (.iconst (-1), 1) := by decide +kernel
theorem dX11_excuse_49 : decode cX11_excuse 49 = .ok (.ixor, 1) := by decide +kernel
theorem dX11_excuse_50 : decode cX11_excuse 50 = .ok (.iand, 1) := by decide +kernel
theorem dX11_excuse_51 : decode cX11_excuse 51 = .ok (.putfield 376, 3) := by decide +kernel
theorem dX11_excuse_54 : decode cX11_excuse 54 = .ok (.aload_n 0, 1) := by decide +kernel
theorem dX11_excuse_55 : decode cX11_excuse 55 = .ok (.getfield 37, 3) := by decide +kernel
theorem dX11_excuse_58 : decode cX11_excuse 58 = .ok (.getfield 376, 3) := by decide +kernel
theorem dX11_excuse_61 : decode cX11_excuse 61 = .ok (.invokestatic 379, 3) := by decide +kernel
theorem dX11_excuse_64 : decode cX11_excuse 64 = .ok (.ireturn, 1) := by decide +kernel
abbrev M_X11_excuse : aM := (yX11_excuse.cls, cX11_excuse, 3, (some .int), [], yX11_excuse.name == "<init>")
abbrev J_X11_excuse (l : Launch) (E : aE) (n0 m0 : Nat) := GG (eT (fun (v : Int32) => some (.int v))) l E M_X11_excuse 7 114 n0 m0
theorem b_X11_excuse {l : Launch} {E : aE} (hl : l.stackTraces = false) (n0 m0 : Nat) (x1 : Nat) (x2 : Int32) (x3 : Int32) (h0 : aH) : J_X11_excuse l E n0 m0 0 [(0, .ref (e_z E + x1)), (1, .int x2), (2, .int x3)] [] h0 (m_X11_excuse x1 x2 x3 h0) := by
  unfold m_X11_excuse
  refine g_aload_n (pc := 0) dX11_excuse_0 0 rfl ?_
  refine g_iload_n (pc := 1) dX11_excuse_1 1 rfl ?_
  refine g_gS (fun hs => ?_)
  refine g_bXv (pc := 2) rfl (c_V cl11 hs (p_X11_needPerson hl x1 x2 h0) y_X11_needPerson tw925 dX11_excuse_2 rfl (st := []) rfl (Nat.le_of_ble_eq_true rfl) (Nat.le_of_ble_eq_true rfl) (Nat.le_of_ble_eq_true rfl)) (fun _ h1 => ?_)
  refine g_aload_n (pc := 5) dX11_excuse_5 0 rfl ?_
  refine g_getr (pc := 6) cl11 (Nat.le_of_ble_eq_true rfl) fk498 (fun _ _ _ => rfl) dX11_excuse_6 (fun x4 => ?_)
  refine g_aload_n (pc := 9) dX11_excuse_9 0 rfl ?_
  refine g_getr (pc := 10) cl11 (Nat.le_of_ble_eq_true rfl) fk495 (fun _ _ _ => rfl) dX11_excuse_10 (fun x5 => ?_)
  refine g_gS (fun hs => ?_)
  refine g_bRv (pc := 13) (c_VN cl2 hs (p_X2_keep hl x4 x5 h1) y_X2_keep tw1412 dX11_excuse_13 rfl (st := []) rfl (Nat.le_of_ble_eq_true rfl) (Nat.le_of_ble_eq_true rfl) (Nat.le_of_ble_eq_true rfl)) (fun _ h2 => ?_)
  refine g_aload_n (pc := 16) dX11_excuse_16 0 rfl ?_
  refine g_getr (pc := 17) cl11 (Nat.le_of_ble_eq_true rfl) fk495 (fun _ _ _ => rfl) dX11_excuse_17 (fun x6 => ?_)
  refine g_iload_n (pc := 20) dX11_excuse_20 2 rfl ?_
  refine g_join (fun k => ∀ (x7 : Int32) (h3 : aH), J_X11_excuse l E n0 m0 51 [(0, .ref (e_z E + x1))] [.int x7, .ref (e_z E + x6)] h3 (k x7 h3)) (fun x7 h3 => ?_) (fun k51 hk51 => ?_)
  · refine g_puti (pc := 51) cl10 (Nat.le_of_ble_eq_true rfl) (Or.inl ⟨rfl, fk360⟩) (fun _ _ _ => rfl) (fun _ => ⟨rfl, rfl⟩) dX11_excuse_51 (fun h4 => ?_)
    refine g_aload_n (pc := 54) dX11_excuse_54 0 rfl ?_
    refine g_getr (pc := 55) cl11 (Nat.le_of_ble_eq_true rfl) fk495 (fun _ _ _ => rfl) dX11_excuse_55 (fun x8 => ?_)
    refine g_geti (pc := 58) cl10 (Nat.le_of_ble_eq_true rfl) fk360 (fun _ _ _ => rfl) dX11_excuse_58 (fun x9 => ?_)
    refine g_bRi (pc := 61) (c_S (p_J6_bitCount_0f7a4 hl x9 h4) y_J6_bitCount_0f7a4 tw1492 dX11_excuse_61 rfl (st := []) rfl (Nat.le_of_ble_eq_true rfl) (Nat.le_of_ble_eq_true rfl) (Nat.le_of_ble_eq_true rfl)) (fun x10 h5 => ?_)
    exact g_ret (pc := 64) rfl (isRet_i _) dX11_excuse_64 rfl
  refine g_ifeq (pc := 21) (tgt := 38) dX11_excuse_21 rfl ?_ ?_
  · refine g_aload_n (pc := 38) dX11_excuse_38 0 rfl ?_
    refine g_getr (pc := 39) cl11 (Nat.le_of_ble_eq_true rfl) fk495 (fun _ _ _ => rfl) dX11_excuse_39 (fun x11 => ?_)
    refine g_geti (pc := 42) cl10 (Nat.le_of_ble_eq_true rfl) fk360 (fun _ _ _ => rfl) dX11_excuse_42 (fun x12 => ?_)
    refine g_iconst (pc := 45) dX11_excuse_45 ci_1 ?_
    refine g_iload_n (pc := 46) dX11_excuse_46 1 rfl ?_
    refine g_ishl (pc := 47) dX11_excuse_47 ?_
    refine g_iconst (pc := 48) dX11_excuse_48 ci_m1 ?_
    refine g_ixor (pc := 49) dX11_excuse_49 ?_
    refine g_iand (pc := 50) dX11_excuse_50 ?_
    refine g_lv [0] rfl ?_
    exact hk51 (x12 &&& (((1 : Int32) <<< (x2 &&& 31)) ^^^ (-1 : Int32))) h2
  · refine g_aload_n (pc := 24) dX11_excuse_24 0 rfl ?_
    refine g_getr (pc := 25) cl11 (Nat.le_of_ble_eq_true rfl) fk495 (fun _ _ _ => rfl) dX11_excuse_25 (fun x13 => ?_)
    refine g_geti (pc := 28) cl10 (Nat.le_of_ble_eq_true rfl) fk360 (fun _ _ _ => rfl) dX11_excuse_28 (fun x14 => ?_)
    refine g_iconst (pc := 31) dX11_excuse_31 ci_1 ?_
    refine g_iload_n (pc := 32) dX11_excuse_32 1 rfl ?_
    refine g_ishl (pc := 33) dX11_excuse_33 ?_
    refine g_ior (pc := 34) dX11_excuse_34 ?_
    refine g_goto (pc := 35) (tgt := 51) dX11_excuse_35 rfl ?_
    refine g_lv [0] rfl ?_
    exact hk51 (x14 ||| ((1 : Int32) <<< (x2 &&& 31))) h2
theorem p_X11_excuse {l : Launch} {E : aE} (hl : l.stackTraces = false) (x1 : Nat) (x2 : Int32) (x3 : Int32) (h0 : aH) : MO (eT (fun (v : Int32) => some (.int v))) l E yX11_excuse (.code yX11_excuse cX11_excuse 3 (some .int)) 7 114 [.ref (e_z E + x1), .int x2, .int x3] h0 (m_X11_excuse x1 x2 x3 h0) := g_met hl (by decide +kernel) (Nat.le_of_ble_eq_true rfl) (b_X11_excuse hl _ _ x1 x2 x3 h0)
theorem dX11_setService_0 : decode cX11_setService 0 = .ok (.aload_n 0, 1) := by decide +kernel
theorem dX11_setService_1 : decode cX11_setService 1 = .ok (.iload_n 1, 1) := by decide +kernel
theorem dX11_setService_2 : decode cX11_setService 2 = .ok (.invokevirtual 232, 3) := by decide +kernel
theorem dX11_setService_5 : decode cX11_setService 5 = .ok (.aload_n 0, 1) := by decide +kernel
theorem dX11_setService_6 : decode cX11_setService 6 = .ok (.getfield 37, 3) := by decide +kernel
theorem dX11_setService_9 : decode cX11_setService 9 = .ok (.iload_n 1, 1) := by decide +kernel
theorem dX11_setService_10 : decode cX11_setService 10 = .ok (.invokevirtual 235, 3) := by decide +kernel
theorem dX11_setService_13 : decode cX11_setService 13 = .ok (.ifCond .eq 14, 3) := by decide +kernel
theorem dX11_setService_16 : decode cX11_setService 16 = .ok (.new 74, 3) := by decide +kernel
theorem dX11_setService_19 : decode cX11_setService 19 = .ok (.dup, 1) := by decide +kernel
theorem dX11_setService_20 : decode cX11_setService 20 = .ok (.ldc_w 384, 3) := by decide +kernel
theorem dX11_setService_23 : decode cX11_setService 23 = .ok (.invokespecial 78, 3) := by decide +kernel
theorem dX11_setService_26 : decode cX11_setService 26 = .ok (.athrow, 1) := by decide +kernel
theorem dX11_setService_27 : decode cX11_setService 27 = .ok (.aload_n 0, 1) := by decide +kernel
theorem dX11_setService_28 : decode cX11_setService 28 = .ok (.getfield 56, 3) := by decide +kernel
theorem dX11_setService_31 : decode cX11_setService 31 = .ok (.aload_n 0, 1) := by decide +kernel
theorem dX11_setService_32 : decode cX11_setService 32 = .ok (.getfield 37, 3) := by decide +kernel
theorem dX11_setService_35 : decode cX11_setService 35 = .ok (.invokevirtual 357, 3) := by decide +kernel
theorem dX11_setService_38 : decode cX11_setService 38 = .ok (.aload_n 0, 1) := by decide +kernel
theorem dX11_setService_39 : decode cX11_setService 39 = .ok (.getfield 37, 3) := by decide +kernel
theorem dX11_setService_42 : decode cX11_setService 42 = .ok (.iload_n 2, 1) := by decide +kernel
theorem dX11_setService_43 : decode cX11_setService 43 = .ok (.ifCond .eq 17, 3) := by decide +kernel
theorem dX11_setService_46 : decode cX11_setService 46 = .ok (.aload_n 0, 1) := by decide +kernel
theorem dX11_setService_47 : decode cX11_setService 47 = .ok (.getfield 37, 3) := by decide +kernel
theorem dX11_setService_50 : decode cX11_setService 50 = .ok (.getfield 386, 3) := by decide +kernel
theorem dX11_setService_53 : decode cX11_setService 53 = .ok (.iconst 1, 1) := by decide +kernel
theorem dX11_setService_54 : decode cX11_setService 54 = .ok (.iload_n 1, 1) := by decide +kernel
theorem dX11_setService_55 : decode cX11_setService 55 = .ok (.ishl, 1) := by decide +kernel
theorem dX11_setService_56 : decode cX11_setService 56 = .ok (.ior, 1) := by decide +kernel
theorem dX11_setService_57 : decode cX11_setService 57 = .ok (.goto 16, 3) := by decide +kernel
theorem dX11_setService_60 : decode cX11_setService 60 = .ok (.aload_n 0, 1) := by decide +kernel
theorem dX11_setService_61 : decode cX11_setService 61 = .ok (.getfield 37, 3) := by decide +kernel
theorem dX11_setService_64 : decode cX11_setService 64 = .ok (.getfield 386, 3) := by decide +kernel
theorem dX11_setService_67 : decode cX11_setService 67 = .ok (.iconst 1, 1) := by decide +kernel
theorem dX11_setService_68 : decode cX11_setService 68 = .ok (.iload_n 1, 1) := by decide +kernel
theorem dX11_setService_69 : decode cX11_setService 69 = .ok (.ishl, 1) := by decide +kernel
theorem dX11_setService_70 : decode cX11_setService 70 = .ok (.iconst (-1), 1) := by decide +kernel
theorem dX11_setService_71 : decode cX11_setService 71 = .ok (.ixor, 1) := by decide +kernel
theorem dX11_setService_72 : decode cX11_setService 72 = .ok (.iand, 1) := by decide +kernel
theorem dX11_setService_73 : decode cX11_setService 73 = .ok (.putfield 386, 3) := by decide +kernel
theorem dX11_setService_76 : decode cX11_setService 76 = .ok (.aload_n 0, 1) := by decide +kernel
theorem dX11_setService_77 : decode cX11_setService 77 = .ok (.getfield 37, 3) := by decide +kernel
theorem dX11_setService_80 : decode cX11_setService 80 = .ok (.getfield 386, 3) := by decide +kernel
theorem dX11_setService_83 : decode cX11_setService 83 = .ok (.invokestatic 379, 3) := by decide +kernel
theorem dX11_setService_86 : decode cX11_setService 86 = .ok (.ireturn, 1) := by decide +kernel
abbrev M_X11_setService : aM := (yX11_setService.cls, cX11_setService, 3, (some .int), [], yX11_setService.name == "<init>")
abbrev J_X11_setService (l : Launch) (E : aE) (n0 m0 : Nat) := GG (eT (fun (v : Int32) => some (.int v))) l E M_X11_setService 7 114 n0 m0
theorem b_X11_setService {l : Launch} {E : aE} (hl : l.stackTraces = false) (n0 m0 : Nat) (x1 : Nat) (x2 : Int32) (x3 : Int32) (h0 : aH) : J_X11_setService l E n0 m0 0 [(0, .ref (e_z E + x1)), (1, .int x2), (2, .int x3)] [] h0 (m_X11_setService x1 x2 x3 h0) := by
  unfold m_X11_setService
  refine g_aload_n (pc := 0) dX11_setService_0 0 rfl ?_
  refine g_iload_n (pc := 1) dX11_setService_1 1 rfl ?_
  refine g_gS (fun hs => ?_)
  refine g_bXv (pc := 2) rfl (c_V cl11 hs (p_X11_needEngine hl x1 x2 h0) y_X11_needEngine tw1139 dX11_setService_2 rfl (st := []) rfl (Nat.le_of_ble_eq_true rfl) (Nat.le_of_ble_eq_true rfl) (Nat.le_of_ble_eq_true rfl)) (fun _ h1 => ?_)
  refine g_aload_n (pc := 5) dX11_setService_5 0 rfl ?_
  refine g_getr (pc := 6) cl11 (Nat.le_of_ble_eq_true rfl) fk495 (fun _ _ _ => rfl) dX11_setService_6 (fun x4 => ?_)
  refine g_iload_n (pc := 9) dX11_setService_9 1 rfl ?_
  refine g_gS (fun hs => ?_)
  refine g_bRi (pc := 10) (c_VN cl10 hs (p_X10_isEngineOut hl x4 x2 h1) y_X10_isEngineOut tw1144 dX11_setService_10 rfl (st := []) rfl (Nat.le_of_ble_eq_true rfl) (Nat.le_of_ble_eq_true rfl) (Nat.le_of_ble_eq_true rfl)) (fun x5 h2 => ?_)
  refine g_ifeq (pc := 13) (tgt := 27) dX11_setService_13 rfl ?_ ?_
  · refine g_aload_n (pc := 27) dX11_setService_27 0 rfl ?_
    refine g_getr (pc := 28) cl11 (Nat.le_of_ble_eq_true rfl) fk498 (fun _ _ _ => rfl) dX11_setService_28 (fun x6 => ?_)
    refine g_aload_n (pc := 31) dX11_setService_31 0 rfl ?_
    refine g_getr (pc := 32) cl11 (Nat.le_of_ble_eq_true rfl) fk495 (fun _ _ _ => rfl) dX11_setService_32 (fun x7 => ?_)
    refine g_gS (fun hs => ?_)
    refine g_bRv (pc := 35) (c_VN cl2 hs (p_X2_keep hl x6 x7 h2) y_X2_keep tw1412 dX11_setService_35 rfl (st := []) rfl (Nat.le_of_ble_eq_true rfl) (Nat.le_of_ble_eq_true rfl) (Nat.le_of_ble_eq_true rfl)) (fun _ h3 => ?_)
    refine g_aload_n (pc := 38) dX11_setService_38 0 rfl ?_
    refine g_getr (pc := 39) cl11 (Nat.le_of_ble_eq_true rfl) fk495 (fun _ _ _ => rfl) dX11_setService_39 (fun x8 => ?_)
    refine g_iload_n (pc := 42) dX11_setService_42 2 rfl ?_
    refine g_join (fun k => ∀ (x9 : Int32) (h4 : aH), J_X11_setService l E n0 m0 73 [(0, .ref (e_z E + x1))] [.int x9, .ref (e_z E + x8)] h4 (k x9 h4)) (fun x9 h4 => ?_) (fun k73 hk73 => ?_)
    · refine g_puti (pc := 73) cl10 (Nat.le_of_ble_eq_true rfl) (Or.inl ⟨rfl, fk377⟩) (fun _ _ _ => rfl) (fun _ => ⟨rfl, rfl⟩) dX11_setService_73 (fun h5 => ?_)
      refine g_aload_n (pc := 76) dX11_setService_76 0 rfl ?_
      refine g_getr (pc := 77) cl11 (Nat.le_of_ble_eq_true rfl) fk495 (fun _ _ _ => rfl) dX11_setService_77 (fun x10 => ?_)
      refine g_geti (pc := 80) cl10 (Nat.le_of_ble_eq_true rfl) fk377 (fun _ _ _ => rfl) dX11_setService_80 (fun x11 => ?_)
      refine g_bRi (pc := 83) (c_S (p_J6_bitCount_0f7a4 hl x11 h5) y_J6_bitCount_0f7a4 tw1492 dX11_setService_83 rfl (st := []) rfl (Nat.le_of_ble_eq_true rfl) (Nat.le_of_ble_eq_true rfl) (Nat.le_of_ble_eq_true rfl)) (fun x12 h6 => ?_)
      exact g_ret (pc := 86) rfl (isRet_i _) dX11_setService_86 rfl
    refine g_ifeq (pc := 43) (tgt := 60) dX11_setService_43 rfl ?_ ?_
    · refine g_aload_n (pc := 60) dX11_setService_60 0 rfl ?_
      refine g_getr (pc := 61) cl11 (Nat.le_of_ble_eq_true rfl) fk495 (fun _ _ _ => rfl) dX11_setService_61 (fun x13 => ?_)
      refine g_geti (pc := 64) cl10 (Nat.le_of_ble_eq_true rfl) fk377 (fun _ _ _ => rfl) dX11_setService_64 (fun x14 => ?_)
      refine g_iconst (pc := 67) dX11_setService_67 ci_1 ?_
      refine g_iload_n (pc := 68) dX11_setService_68 1 rfl ?_
      refine g_ishl (pc := 69) dX11_setService_69 ?_
      refine g_iconst (pc := 70) dX11_setService_70 ci_m1 ?_
      refine g_ixor (pc := 71) dX11_setService_71 ?_
      refine g_iand (pc := 72) dX11_setService_72 ?_
      refine g_lv [0] rfl ?_
      exact hk73 (x14 &&& (((1 : Int32) <<< (x2 &&& 31)) ^^^ (-1 : Int32))) h3
    · refine g_aload_n (pc := 46) dX11_setService_46 0 rfl ?_
      refine g_getr (pc := 47) cl11 (Nat.le_of_ble_eq_true rfl) fk495 (fun _ _ _ => rfl) dX11_setService_47 (fun x15 => ?_)
      refine g_geti (pc := 50) cl10 (Nat.le_of_ble_eq_true rfl) fk377 (fun _ _ _ => rfl) dX11_setService_50 (fun x16 => ?_)
      refine g_iconst (pc := 53) dX11_setService_53 ci_1 ?_
      refine g_iload_n (pc := 54) dX11_setService_54 1 rfl ?_
      refine g_ishl (pc := 55) dX11_setService_55 ?_
      refine g_ior (pc := 56) dX11_setService_56 ?_
      refine g_goto (pc := 57) (tgt := 73) dX11_setService_57 rfl ?_
      refine g_lv [0] rfl ?_
      exact hk73 (x16 ||| ((1 : Int32) <<< (x2 &&& 31))) h3
  · exact g_throwEW (pc := 16) rfl exf_ISE exn tx_33 ⟨tw542, rfl, rfl⟩ exi_ISE (xw_of exw_ISE ⟨tw585, rfl, rfl⟩) dX11_setService_16 dX11_setService_19 dX11_setService_20 dX11_setService_23 dX11_setService_26 (Nat.le_of_ble_eq_true rfl) (Nat.le_of_ble_eq_true rfl)
theorem p_X11_setService {l : Launch} {E : aE} (hl : l.stackTraces = false) (x1 : Nat) (x2 : Int32) (x3 : Int32) (h0 : aH) : MO (eT (fun (v : Int32) => some (.int v))) l E yX11_setService (.code yX11_setService cX11_setService 3 (some .int)) 7 114 [.ref (e_z E + x1), .int x2, .int x3] h0 (m_X11_setService x1 x2 x3 h0) := g_met hl (by decide +kernel) (Nat.le_of_ble_eq_true rfl) (b_X11_setService hl _ _ x1 x2 x3 h0)
theorem dX11_setTrust_0 : decode cX11_setTrust 0 = .ok (.aload_n 0, 1) := by decide +kernel
theorem dX11_setTrust_1 : decode cX11_setTrust 1 = .ok (.iload_n 1, 1) := by decide +kernel
theorem dX11_setTrust_2 : decode cX11_setTrust 2 = .ok (.iload_n 2, 1) := by decide +kernel
theorem dX11_setTrust_3 : decode cX11_setTrust 3 = .ok (.invokevirtual 183, 3) := by decide +kernel
theorem dX11_setTrust_6 : decode cX11_setTrust 6 = .ok (.iload_n 3, 1) := by decide +kernel
theorem dX11_setTrust_7 : decode cX11_setTrust 7 = .ok (.ifCond .lt 9, 3) := by decide +kernel
theorem dX11_setTrust_10 : decode cX11_setTrust 10 = .ok (.iload_n 3, 1) := by decide +kernel
theorem dX11_setTrust_11 : decode cX11_setTrust 11 = .ok (.bipush 9, 2) := by decide +kernel
theorem dX11_setTrust_13 : decode cX11_setTrust 13 = .ok (.if_icmp .le 14, 3) := by decide +kernel
theorem dX11_setTrust_16 : decode cX11_setTrust 16 = .ok (.new 94, 3) := by decide +kernel
theorem dX11_setTrust_19 : decode cX11_setTrust 19 = .ok (.dup, 1) := by decide +kernel
theorem dX11_setTrust_20 : decode cX11_setTrust 20 = .ok (.ldc_w 389, 3) := by decide +kernel
theorem dX11_setTrust_23 : decode cX11_setTrust 23 = .ok (.invokespecial 98, 3) := by decide +kernel
theorem dX11_setTrust_26 : decode cX11_setTrust 26 = .ok (.athrow, 1) := by decide +kernel
theorem dX11_setTrust_27 : decode cX11_setTrust 27 = .ok (.aload_n 0, 1) := by decide +kernel
theorem dX11_setTrust_28 : decode cX11_setTrust 28 = .ok (.getfield 56, 3) := by decide +kernel
theorem dX11_setTrust_31 : decode cX11_setTrust 31 = .ok (.aload_n 0, 1) := by decide +kernel
theorem dX11_setTrust_32 : decode cX11_setTrust 32 = .ok (.getfield 37, 3) := by decide +kernel
theorem dX11_setTrust_35 : decode cX11_setTrust 35 = .ok (.invokevirtual 357, 3) := by decide +kernel
theorem dX11_setTrust_38 : decode cX11_setTrust 38 = .ok (.aload_n 0, 1) := by decide +kernel
theorem dX11_setTrust_39 : decode cX11_setTrust 39 = .ok (.getfield 37, 3) := by decide +kernel
theorem dX11_setTrust_42 : decode cX11_setTrust 42 = .ok (.getfield 187, 3) := by decide +kernel
theorem dX11_setTrust_45 : decode cX11_setTrust 45 = .ok (.iload_n 1, 1) := by decide +kernel
theorem dX11_setTrust_46 : decode cX11_setTrust 46 = .ok (.iload_n 2, 1) := by decide +kernel
theorem dX11_setTrust_47 : decode cX11_setTrust 47 = .ok (.invokestatic 190, 3) := by decide +kernel
theorem dX11_setTrust_50 : decode cX11_setTrust 50 = .ok (.iaload, 1) := by decide +kernel
theorem dX11_setTrust_51 : decode cX11_setTrust 51 = .ok (.istore 4, 2) := by decide +kernel
theorem dX11_setTrust_53 : decode cX11_setTrust 53 = .ok (.aload_n 0, 1) := by decide +kernel
theorem dX11_setTrust_54 : decode cX11_setTrust 54 = .ok (.getfield 37, 3) := by decide +kernel
theorem dX11_setTrust_57 : decode cX11_setTrust 57 = .ok (.getfield 187, 3) := by decide +kernel
theorem dX11_setTrust_60 : decode cX11_setTrust 60 = .ok (.iload_n 1, 1) := by decide +kernel
theorem dX11_setTrust_61 : decode cX11_setTrust 61 = .ok (.iload_n 2, 1) := by decide +kernel
theorem dX11_setTrust_62 : decode cX11_setTrust 62 = .ok (.invokestatic 190, 3) := by decide +kernel
theorem dX11_setTrust_65 : decode cX11_setTrust 65 = .ok (.iload_n 3, 1) := by decide +kernel
theorem dX11_setTrust_66 : decode cX11_setTrust 66 = .ok (.iastore, 1) := by decide +kernel
theorem dX11_setTrust_67 : decode cX11_setTrust 67 = .ok (.iload 4, 2) := by decide +kernel
theorem dX11_setTrust_69 : decode cX11_setTrust 69 = .ok (.ireturn, 1) := by decide +kernel
abbrev M_X11_setTrust : aM := (yX11_setTrust.cls, cX11_setTrust, 5, (some .int), [], yX11_setTrust.name == "<init>")
abbrev J_X11_setTrust (l : Launch) (E : aE) (n0 m0 : Nat) := GG (eT (fun (v : Int32) => some (.int v))) l E M_X11_setTrust 8 133 n0 m0
theorem b_X11_setTrust {l : Launch} {E : aE} (hl : l.stackTraces = false) (n0 m0 : Nat) (x1 : Nat) (x2 : Int32) (x3 : Int32) (x4 : Int32) (h0 : aH) : J_X11_setTrust l E n0 m0 0 [(0, .ref (e_z E + x1)), (1, .int x2), (2, .int x3), (3, .int x4)] [] h0 (m_X11_setTrust x1 x2 x3 x4 h0) := by
  unfold m_X11_setTrust
  refine g_aload_n (pc := 0) dX11_setTrust_0 0 rfl ?_
  refine g_iload_n (pc := 1) dX11_setTrust_1 1 rfl ?_
  refine g_iload_n (pc := 2) dX11_setTrust_2 2 rfl ?_
  refine g_gS (fun hs => ?_)
  refine g_bXv (pc := 3) rfl (c_V cl11 hs (p_X11_needTwoPersons hl x1 x2 x3 h0) y_X11_needTwoPersons tw1001 dX11_setTrust_3 rfl (st := []) rfl (Nat.le_of_ble_eq_true rfl) (Nat.le_of_ble_eq_true rfl) (Nat.le_of_ble_eq_true rfl)) (fun _ h1 => ?_)
  refine g_iload_n (pc := 6) dX11_setTrust_6 3 rfl ?_
  refine g_join (fun k => ∀ (h2 : aH), J_X11_setTrust l E n0 m0 16 [] [] h2 (k h2)) (fun h2 => ?_) (fun k16 hk16 => ?_)
  · exact g_throwEW (pc := 16) rfl exf_IAE exn tx_34 ⟨tw830, rfl, rfl⟩ exi_IAE (xw_of exw_IAE ⟨tw840, rfl, rfl⟩) dX11_setTrust_16 dX11_setTrust_19 dX11_setTrust_20 dX11_setTrust_23 dX11_setTrust_26 (Nat.le_of_ble_eq_true rfl) (Nat.le_of_ble_eq_true rfl)
  refine g_iflt (pc := 7) (tgt := 16) dX11_setTrust_7 rfl ?_ ?_
  · refine g_lv [] rfl ?_
    exact hk16 h1
  · refine g_iload_n (pc := 10) dX11_setTrust_10 3 rfl ?_
    refine g_bipush (pc := 11) dX11_setTrust_11 cb_9 ?_
    refine g_icmple (pc := 13) (tgt := 27) dX11_setTrust_13 rfl ?_ ?_
    · refine g_aload_n (pc := 27) dX11_setTrust_27 0 rfl ?_
      refine g_getr (pc := 28) cl11 (Nat.le_of_ble_eq_true rfl) fk498 (fun _ _ _ => rfl) dX11_setTrust_28 (fun x5 => ?_)
      refine g_aload_n (pc := 31) dX11_setTrust_31 0 rfl ?_
      refine g_getr (pc := 32) cl11 (Nat.le_of_ble_eq_true rfl) fk495 (fun _ _ _ => rfl) dX11_setTrust_32 (fun x6 => ?_)
      refine g_gS (fun hs => ?_)
      refine g_bRv (pc := 35) (c_VN cl2 hs (p_X2_keep hl x5 x6 h1) y_X2_keep tw1412 dX11_setTrust_35 rfl (st := []) rfl (Nat.le_of_ble_eq_true rfl) (Nat.le_of_ble_eq_true rfl) (Nat.le_of_ble_eq_true rfl)) (fun _ h3 => ?_)
      refine g_aload_n (pc := 38) dX11_setTrust_38 0 rfl ?_
      refine g_getr (pc := 39) cl11 (Nat.le_of_ble_eq_true rfl) fk495 (fun _ _ _ => rfl) dX11_setTrust_39 (fun x7 => ?_)
      refine g_getr (pc := 42) cl10 (Nat.le_of_ble_eq_true rfl) fk362 (fun _ _ _ => rfl) dX11_setTrust_42 (fun x8 => ?_)
      refine g_iload_n (pc := 45) dX11_setTrust_45 1 rfl ?_
      refine g_iload_n (pc := 46) dX11_setTrust_46 2 rfl ?_
      refine g_bRi (pc := 47) (c_S (p_X11_pair hl x2 x3 h3) y_X11_pair tw1006 dX11_setTrust_47 rfl (st := [.ref (e_z E + x8)]) rfl (Nat.le_of_ble_eq_true rfl) (Nat.le_of_ble_eq_true rfl) (Nat.le_of_ble_eq_true rfl)) (fun x9 h4 => ?_)
      refine g_iald (pc := 50) dX11_setTrust_50 (fun x10 => ?_)
      refine g_istore (pc := 51) (lv' := [(4, .int x10), (0, .ref (e_z E + x1)), (1, .int x2), (2, .int x3), (3, .int x4)]) dX11_setTrust_51 (Nat.le_of_ble_eq_true rfl) rfl ?_
      refine g_aload_n (pc := 53) dX11_setTrust_53 1 rfl ?_
      refine g_getr (pc := 54) cl11 (Nat.le_of_ble_eq_true rfl) fk495 (fun _ _ _ => rfl) dX11_setTrust_54 (fun x11 => ?_)
      refine g_getr (pc := 57) cl10 (Nat.le_of_ble_eq_true rfl) fk362 (fun _ _ _ => rfl) dX11_setTrust_57 (fun x12 => ?_)
      refine g_iload_n (pc := 60) dX11_setTrust_60 2 rfl ?_
      refine g_iload_n (pc := 61) dX11_setTrust_61 3 rfl ?_
      refine g_bRi (pc := 62) (c_S (p_X11_pair hl x2 x3 h4) y_X11_pair tw1006 dX11_setTrust_62 rfl (st := [.ref (e_z E + x12)]) rfl (Nat.le_of_ble_eq_true rfl) (Nat.le_of_ble_eq_true rfl) (Nat.le_of_ble_eq_true rfl)) (fun x13 h5 => ?_)
      refine g_iload_n (pc := 65) dX11_setTrust_65 4 rfl ?_
      refine g_iast (pc := 66) dX11_setTrust_66 (fun h6 => ?_)
      refine g_iload (pc := 67) dX11_setTrust_67 0 rfl ?_
      exact g_ret (pc := 69) rfl (isRet_i _) dX11_setTrust_69 rfl
    · refine g_lv [] rfl ?_
      exact hk16 h1
theorem p_X11_setTrust {l : Launch} {E : aE} (hl : l.stackTraces = false) (x1 : Nat) (x2 : Int32) (x3 : Int32) (x4 : Int32) (h0 : aH) : MO (eT (fun (v : Int32) => some (.int v))) l E yX11_setTrust (.code yX11_setTrust cX11_setTrust 5 (some .int)) 8 133 [.ref (e_z E + x1), .int x2, .int x3, .int x4] h0 (m_X11_setTrust x1 x2 x3 x4 h0) := g_met hl (by decide +kernel) (Nat.le_of_ble_eq_true rfl) (b_X11_setTrust hl _ _ x1 x2 x3 x4 h0)
theorem dX11_undo_0 : decode cX11_undo 0 = .ok (.aload_n 0, 1) := by decide +kernel
theorem dX11_undo_1 : decode cX11_undo 1 = .ok (.getfield 56, 3) := by decide +kernel
theorem dX11_undo_4 : decode cX11_undo 4 = .ok (.getfield 391, 3) := by decide +kernel
theorem dX11_undo_7 : decode cX11_undo 7 = .ok (.ifCond .ne 14, 3) := by decide +kernel
theorem dX11_undo_10 : decode cX11_undo 10 = .ok (.new 74, 3) := by decide +kernel
theorem dX11_undo_13 : decode cX11_undo 13 = .ok (.dup, 1) := by decide +kernel
theorem dX11_undo_14 : decode cX11_undo 14 = .ok (.ldc_w 394, 3) := by decide +kernel
theorem dX11_undo_17 : decode cX11_undo 17 = .ok (.invokespecial 78, 3) := by decide +kernel
theorem dX11_undo_20 : decode cX11_undo 20 = .ok (.athrow, 1) := by decide +kernel
theorem dX11_undo_21 : decode cX11_undo 21 = .ok (.aload_n 0, 1) := by decide +kernel
theorem dX11_undo_22 : decode cX11_undo 22 = .ok (.getfield 56, 3) := by decide +kernel
theorem dX11_undo_25 : decode cX11_undo 25 = .ok (.aload_n 0, 1) := by decide +kernel
theorem dX11_undo_26 : decode cX11_undo 26 = .ok (.getfield 37, 3) := by decide +kernel
theorem dX11_undo_29 : decode cX11_undo 29 = .ok (.invokevirtual 396, 3) := by decide +kernel
theorem dX11_undo_32 : decode cX11_undo 32 = .ok (.aload_n 0, 1) := by decide +kernel
theorem dX11_undo_33 : decode cX11_undo 33 = .ok (.getfield 56, 3) := by decide +kernel
theorem dX11_undo_36 : decode cX11_undo 36 = .ok (.getfield 391, 3) := by decide +kernel
theorem dX11_undo_39 : decode cX11_undo 39 = .ok (.ireturn, 1) := by decide +kernel
abbrev M_X11_undo : aM := (yX11_undo.cls, cX11_undo, 1, (some .int), [], yX11_undo.name == "<init>")
abbrev J_X11_undo (l : Launch) (E : aE) (n0 m0 : Nat) := GG (eT (fun (v : Int32) => some (.int v))) l E M_X11_undo 6 114 n0 m0
theorem b_X11_undo {l : Launch} {E : aE} (hl : l.stackTraces = false) (n0 m0 : Nat) (x1 : Nat) (h0 : aH) : J_X11_undo l E n0 m0 0 [(0, .ref (e_z E + x1))] [] h0 (m_X11_undo x1 h0) := by
  unfold m_X11_undo
  refine g_aload_n (pc := 0) dX11_undo_0 0 rfl ?_
  refine g_getr (pc := 1) cl11 (Nat.le_of_ble_eq_true rfl) fk498 (fun _ _ _ => rfl) dX11_undo_1 (fun x2 => ?_)
  refine g_geti (pc := 4) cl2 (Nat.le_of_ble_eq_true rfl) fk470 (fun _ _ _ => rfl) dX11_undo_4 (fun x3 => ?_)
  refine g_ifne (pc := 7) (tgt := 21) dX11_undo_7 rfl ?_ ?_
  · exact g_throwEW (pc := 10) rfl exf_ISE exn tx_35 ⟨tw542, rfl, rfl⟩ exi_ISE (xw_of exw_ISE ⟨tw585, rfl, rfl⟩) dX11_undo_10 dX11_undo_13 dX11_undo_14 dX11_undo_17 dX11_undo_20 (Nat.le_of_ble_eq_true rfl) (Nat.le_of_ble_eq_true rfl)
  · refine g_aload_n (pc := 21) dX11_undo_21 0 rfl ?_
    refine g_getr (pc := 22) cl11 (Nat.le_of_ble_eq_true rfl) fk498 (fun _ _ _ => rfl) dX11_undo_22 (fun x4 => ?_)
    refine g_aload_n (pc := 25) dX11_undo_25 0 rfl ?_
    refine g_getr (pc := 26) cl11 (Nat.le_of_ble_eq_true rfl) fk495 (fun _ _ _ => rfl) dX11_undo_26 (fun x5 => ?_)
    refine g_gS (fun hs => ?_)
    refine g_bRv (pc := 29) (c_VN cl2 hs (p_X2_takeBack hl x4 x5 h0) y_X2_takeBack tw1517 dX11_undo_29 rfl (st := []) rfl (Nat.le_of_ble_eq_true rfl) (Nat.le_of_ble_eq_true rfl) (Nat.le_of_ble_eq_true rfl)) (fun _ h1 => ?_)
    refine g_aload_n (pc := 32) dX11_undo_32 0 rfl ?_
    refine g_getr (pc := 33) cl11 (Nat.le_of_ble_eq_true rfl) fk498 (fun _ _ _ => rfl) dX11_undo_33 (fun x6 => ?_)
    refine g_geti (pc := 36) cl2 (Nat.le_of_ble_eq_true rfl) fk470 (fun _ _ _ => rfl) dX11_undo_36 (fun x7 => ?_)
    exact g_ret (pc := 39) rfl (isRet_i _) dX11_undo_39 rfl
theorem p_X11_undo {l : Launch} {E : aE} (hl : l.stackTraces = false) (x1 : Nat) (h0 : aH) : MO (eT (fun (v : Int32) => some (.int v))) l E yX11_undo (.code yX11_undo cX11_undo 1 (some .int)) 6 114 [.ref (e_z E + x1)] h0 (m_X11_undo x1 h0) := g_met hl (by decide +kernel) (Nat.le_of_ble_eq_true rfl) (b_X11_undo hl _ _ x1 h0)
theorem dX11_needSlot_0 : decode cX11_needSlot 0 = .ok (.iload_n 1, 1) := by decide +kernel
theorem dX11_needSlot_1 : decode cX11_needSlot 1 = .ok (.ifCond .lt 8, 3) := by decide +kernel
theorem dX11_needSlot_4 : decode cX11_needSlot 4 = .ok (.iload_n 1, 1) := by decide +kernel
theorem dX11_needSlot_5 : decode cX11_needSlot 5 = .ok (.iconst 2, 1) := by decide +kernel
theorem dX11_needSlot_6 : decode cX11_needSlot 6 = .ok (.if_icmp .lt 14, 3) := by decide +kernel
theorem dX11_needSlot_9 : decode cX11_needSlot 9 = .ok (.new 85, 3) := by decide +kernel
theorem dX11_needSlot_12 : decode cX11_needSlot 12 = .ok (.dup, 1) := by decide +kernel
theorem dX11_needSlot_13 : decode cX11_needSlot 13 = .ok (.ldc_w 449, 3) := by decide +kernel
theorem dX11_needSlot_16 : decode cX11_needSlot 16 = .ok (.invokespecial 89, 3) := by decide +kernel
theorem dX11_needSlot_19 : decode cX11_needSlot 19 = .ok (.athrow, 1) := by decide +kernel
theorem dX11_needSlot_20 : decode cX11_needSlot 20 = .ok (.return_, 1) := by decide +kernel
abbrev M_X11_needSlot : aM := (yX11_needSlot.cls, cX11_needSlot, 2, none, [], yX11_needSlot.name == "<init>")
abbrev J_X11_needSlot (l : Launch) (E : aE) (n0 m0 : Nat) := GG (eT (fun (_ : Unit) => none)) l E M_X11_needSlot 6 90 n0 m0
theorem b_X11_needSlot {l : Launch} {E : aE} (hl : l.stackTraces = false) (n0 m0 : Nat) (x1 : Nat) (x2 : Int32) (h0 : aH) : J_X11_needSlot l E n0 m0 0 [(0, .ref (e_z E + x1)), (1, .int x2)] [] h0 (m_X11_needSlot x1 x2 h0) := by
  unfold m_X11_needSlot
  refine g_iload_n (pc := 0) dX11_needSlot_0 1 rfl ?_
  refine g_join (fun k => ∀ (h1 : aH), J_X11_needSlot l E n0 m0 9 [] [] h1 (k h1)) (fun h1 => ?_) (fun k9 hk9 => ?_)
  · exact g_throwEW (pc := 9) rfl exf_IOB exn tx_36 ⟨tw622, rfl, rfl⟩ exi_IOB (xw_of exw_IOB ⟨tw632, rfl, rfl⟩) dX11_needSlot_9 dX11_needSlot_12 dX11_needSlot_13 dX11_needSlot_16 dX11_needSlot_19 (Nat.le_of_ble_eq_true rfl) (Nat.le_of_ble_eq_true rfl)
  refine g_iflt (pc := 1) (tgt := 9) dX11_needSlot_1 rfl ?_ ?_
  · refine g_lv [] rfl ?_
    exact hk9 h0
  · refine g_iload_n (pc := 4) dX11_needSlot_4 1 rfl ?_
    refine g_iconst (pc := 5) dX11_needSlot_5 ci_2 ?_
    refine g_icmplt (pc := 6) (tgt := 20) dX11_needSlot_6 rfl ?_ ?_
    · exact g_ret (pc := 20) rfl isRet_v dX11_needSlot_20 rfl
    · refine g_lv [] rfl ?_
      exact hk9 h0
theorem p_X11_needSlot {l : Launch} {E : aE} (hl : l.stackTraces = false) (x1 : Nat) (x2 : Int32) (h0 : aH) : MO (eT (fun (_ : Unit) => none)) l E yX11_needSlot (.code yX11_needSlot cX11_needSlot 2 none) 6 90 [.ref (e_z E + x1), .int x2] h0 (m_X11_needSlot x1 x2 h0) := g_met hl (by decide +kernel) (Nat.le_of_ble_eq_true rfl) (b_X11_needSlot hl _ _ x1 x2 h0)
theorem dX11_save_0 : decode cX11_save 0 = .ok (.aload_n 0, 1) := by decide +kernel
theorem dX11_save_1 : decode cX11_save 1 = .ok (.iload_n 1, 1) := by decide +kernel
theorem dX11_save_2 : decode cX11_save 2 = .ok (.invokevirtual 399, 3) := by decide +kernel
theorem dX11_save_5 : decode cX11_save 5 = .ok (.aload_n 0, 1) := by decide +kernel
theorem dX11_save_6 : decode cX11_save 6 = .ok (.getfield 56, 3) := by decide +kernel
theorem dX11_save_9 : decode cX11_save 9 = .ok (.getfield 402, 3) := by decide +kernel
theorem dX11_save_12 : decode cX11_save 12 = .ok (.iload_n 1, 1) := by decide +kernel
theorem dX11_save_13 : decode cX11_save 13 = .ok (.aaload, 1) := by decide +kernel
theorem dX11_save_14 : decode cX11_save 14 = .ok (.aload_n 0, 1) := by decide +kernel
theorem dX11_save_15 : decode cX11_save 15 = .ok (.getfield 37, 3) := by decide +kernel
theorem dX11_save_18 : decode cX11_save 18 = .ok (.invokevirtual 330, 3) := by decide +kernel
theorem dX11_save_21 : decode cX11_save 21 = .ok (.aload_n 0, 1) := by decide +kernel
theorem dX11_save_22 : decode cX11_save 22 = .ok (.getfield 56, 3) := by decide +kernel
theorem dX11_save_25 : decode cX11_save 25 = .ok (.getfield 406, 3) := by decide +kernel
theorem dX11_save_28 : decode cX11_save 28 = .ok (.iload_n 1, 1) := by decide +kernel
theorem dX11_save_29 : decode cX11_save 29 = .ok (.iconst 1, 1) := by decide +kernel
theorem dX11_save_30 : decode cX11_save 30 = .ok (.bastore, 1) := by decide +kernel
theorem dX11_save_31 : decode cX11_save 31 = .ok (.return_, 1) := by decide +kernel
abbrev M_X11_save : aM := (yX11_save.cls, cX11_save, 2, none, [], yX11_save.name == "<init>")
abbrev J_X11_save (l : Launch) (E : aE) (n0 m0 : Nat) := GG (eT (fun (_ : Unit) => none)) l E M_X11_save 7 111 n0 m0
theorem b_X11_save {l : Launch} {E : aE} (hl : l.stackTraces = false) (n0 m0 : Nat) (x1 : Nat) (x2 : Int32) (h0 : aH) : J_X11_save l E n0 m0 0 [(0, .ref (e_z E + x1)), (1, .int x2)] [] h0 (m_X11_save x1 x2 h0) := by
  unfold m_X11_save
  refine g_aload_n (pc := 0) dX11_save_0 0 rfl ?_
  refine g_iload_n (pc := 1) dX11_save_1 1 rfl ?_
  refine g_gS (fun hs => ?_)
  refine g_bXv (pc := 2) rfl (c_V cl11 hs (p_X11_needSlot hl x1 x2 h0) y_X11_needSlot tw1528 dX11_save_2 rfl (st := []) rfl (Nat.le_of_ble_eq_true rfl) (Nat.le_of_ble_eq_true rfl) (Nat.le_of_ble_eq_true rfl)) (fun _ h1 => ?_)
  refine g_aload_n (pc := 5) dX11_save_5 0 rfl ?_
  refine g_getr (pc := 6) cl11 (Nat.le_of_ble_eq_true rfl) fk498 (fun _ _ _ => rfl) dX11_save_6 (fun x3 => ?_)
  refine g_getr (pc := 9) cl2 (Nat.le_of_ble_eq_true rfl) fk473 (fun _ _ _ => rfl) dX11_save_9 (fun x4 => ?_)
  refine g_iload_n (pc := 12) dX11_save_12 1 rfl ?_
  refine g_aald (pc := 13) (t := 4) (Nat.le_of_ble_eq_true rfl) (Nat.le_of_ble_eq_true rfl) dX11_save_13 (fun x5 => ?_)
  refine g_aload_n (pc := 14) dX11_save_14 0 rfl ?_
  refine g_getr (pc := 15) cl11 (Nat.le_of_ble_eq_true rfl) fk495 (fun _ _ _ => rfl) dX11_save_15 (fun x6 => ?_)
  refine g_gS (fun hs => ?_)
  refine g_bRv (pc := 18) (c_VN cl10 hs (p_X10_copyFrom hl x5 x6 h1) y_X10_copyFrom tw1352 dX11_save_18 rfl (st := []) rfl (Nat.le_of_ble_eq_true rfl) (Nat.le_of_ble_eq_true rfl) (Nat.le_of_ble_eq_true rfl)) (fun _ h2 => ?_)
  refine g_aload_n (pc := 21) dX11_save_21 0 rfl ?_
  refine g_getr (pc := 22) cl11 (Nat.le_of_ble_eq_true rfl) fk498 (fun _ _ _ => rfl) dX11_save_22 (fun x7 => ?_)
  refine g_getr (pc := 25) cl2 (Nat.le_of_ble_eq_true rfl) fk475 (fun _ _ _ => rfl) dX11_save_25 (fun x8 => ?_)
  refine g_iload_n (pc := 28) dX11_save_28 1 rfl ?_
  refine g_iconst (pc := 29) dX11_save_29 ci_1 ?_
  refine g_zast (pc := 30) dX11_save_30 (fun h3 => ?_)
  exact g_ret (pc := 31) rfl isRet_v dX11_save_31 rfl
theorem p_X11_save {l : Launch} {E : aE} (hl : l.stackTraces = false) (x1 : Nat) (x2 : Int32) (h0 : aH) : MO (eT (fun (_ : Unit) => none)) l E yX11_save (.code yX11_save cX11_save 2 none) 7 111 [.ref (e_z E + x1), .int x2] h0 (m_X11_save x1 x2 h0) := g_met hl (by decide +kernel) (Nat.le_of_ble_eq_true rfl) (b_X11_save hl _ _ x1 x2 h0)
theorem dX11_restore_0 : decode cX11_restore 0 = .ok (.aload_n 0, 1) := by decide +kernel
theorem dX11_restore_1 : decode cX11_restore 1 = .ok (.iload_n 1, 1) := by decide +kernel
theorem dX11_restore_2 : decode cX11_restore 2 = .ok (.invokevirtual 399, 3) := by decide +kernel
theorem dX11_restore_5 : decode cX11_restore 5 = .ok (.aload_n 0, 1) := by decide +kernel
theorem dX11_restore_6 : decode cX11_restore 6 = .ok (.getfield 56, 3) := by decide +kernel
theorem dX11_restore_9 : decode cX11_restore 9 = .ok (.getfield 406, 3) := by decide +kernel
theorem dX11_restore_12 : decode cX11_restore 12 = .ok (.iload_n 1, 1) := by decide +kernel
theorem dX11_restore_13 : decode cX11_restore 13 = .ok (.baload, 1) := by decide +kernel
theorem dX11_restore_14 : decode cX11_restore 14 = .ok (.ifCond .ne 14, 3) := by decide +kernel
theorem dX11_restore_17 : decode cX11_restore 17 = .ok (.new 126, 3) := by decide +kernel
theorem dX11_restore_20 : decode cX11_restore 20 = .ok (.dup, 1) := by decide +kernel
theorem dX11_restore_21 : decode cX11_restore 21 = .ok (.ldc_w 410, 3) := by decide +kernel
theorem dX11_restore_24 : decode cX11_restore 24 = .ok (.invokespecial 130, 3) := by decide +kernel
theorem dX11_restore_27 : decode cX11_restore 27 = .ok (.athrow, 1) := by decide +kernel
theorem dX11_restore_28 : decode cX11_restore 28 = .ok (.aload_n 0, 1) := by decide +kernel
theorem dX11_restore_29 : decode cX11_restore 29 = .ok (.getfield 37, 3) := by decide +kernel
theorem dX11_restore_32 : decode cX11_restore 32 = .ok (.aload_n 0, 1) := by decide +kernel
theorem dX11_restore_33 : decode cX11_restore 33 = .ok (.getfield 56, 3) := by decide +kernel
theorem dX11_restore_36 : decode cX11_restore 36 = .ok (.getfield 402, 3) := by decide +kernel
theorem dX11_restore_39 : decode cX11_restore 39 = .ok (.iload_n 1, 1) := by decide +kernel
theorem dX11_restore_40 : decode cX11_restore 40 = .ok (.aaload, 1) := by decide +kernel
theorem dX11_restore_41 : decode cX11_restore 41 = .ok (.invokevirtual 330, 3) := by decide +kernel
theorem dX11_restore_44 : decode cX11_restore 44 = .ok (.aload_n 0, 1) := by decide +kernel
theorem dX11_restore_45 : decode cX11_restore 45 = .ok (.getfield 56, 3) := by decide +kernel
theorem dX11_restore_48 : decode cX11_restore 48 = .ok (.iconst 0, 1) := by decide +kernel
theorem dX11_restore_49 : decode cX11_restore 49 = .ok (.putfield 391, 3) := by decide +kernel
theorem dX11_restore_52 : decode cX11_restore 52 = .ok (.return_, 1) := by decide +kernel
abbrev M_X11_restore : aM := (yX11_restore.cls, cX11_restore, 2, none, [], yX11_restore.name == "<init>")
abbrev J_X11_restore (l : Launch) (E : aE) (n0 m0 : Nat) := GG (eT (fun (_ : Unit) => none)) l E M_X11_restore 7 111 n0 m0
theorem b_X11_restore {l : Launch} {E : aE} (hl : l.stackTraces = false) (n0 m0 : Nat) (x1 : Nat) (x2 : Int32) (h0 : aH) : J_X11_restore l E n0 m0 0 [(0, .ref (e_z E + x1)), (1, .int x2)] [] h0 (m_X11_restore x1 x2 h0) := by
  unfold m_X11_restore
  refine g_aload_n (pc := 0) dX11_restore_0 0 rfl ?_
  refine g_iload_n (pc := 1) dX11_restore_1 1 rfl ?_
  refine g_gS (fun hs => ?_)
  refine g_bXv (pc := 2) rfl (c_V cl11 hs (p_X11_needSlot hl x1 x2 h0) y_X11_needSlot tw1528 dX11_restore_2 rfl (st := []) rfl (Nat.le_of_ble_eq_true rfl) (Nat.le_of_ble_eq_true rfl) (Nat.le_of_ble_eq_true rfl)) (fun _ h1 => ?_)
  refine g_aload_n (pc := 5) dX11_restore_5 0 rfl ?_
  refine g_getr (pc := 6) cl11 (Nat.le_of_ble_eq_true rfl) fk498 (fun _ _ _ => rfl) dX11_restore_6 (fun x3 => ?_)
  refine g_getr (pc := 9) cl2 (Nat.le_of_ble_eq_true rfl) fk475 (fun _ _ _ => rfl) dX11_restore_9 (fun x4 => ?_)
  refine g_iload_n (pc := 12) dX11_restore_12 1 rfl ?_
  refine g_zald (pc := 13) dX11_restore_13 (fun x5 => ?_)
  refine g_ifne (pc := 14) (tgt := 28) dX11_restore_14 rfl ?_ ?_
  · exact g_throwXW (pc := 17) exd0_NSE exd1_NSE exd2_NSE exd3_NSE rfl exf_NSE exn tx_37 ⟨tw876, rfl, rfl⟩ exi_NSE (xx_of exw_NSE ⟨tw886, rfl, rfl⟩) dX11_restore_17 dX11_restore_20 dX11_restore_21 dX11_restore_24 dX11_restore_27 (Nat.le_of_ble_eq_true rfl) (Nat.le_of_ble_eq_true rfl)
  · refine g_aload_n (pc := 28) dX11_restore_28 0 rfl ?_
    refine g_getr (pc := 29) cl11 (Nat.le_of_ble_eq_true rfl) fk495 (fun _ _ _ => rfl) dX11_restore_29 (fun x6 => ?_)
    refine g_aload_n (pc := 32) dX11_restore_32 0 rfl ?_
    refine g_getr (pc := 33) cl11 (Nat.le_of_ble_eq_true rfl) fk498 (fun _ _ _ => rfl) dX11_restore_33 (fun x7 => ?_)
    refine g_getr (pc := 36) cl2 (Nat.le_of_ble_eq_true rfl) fk473 (fun _ _ _ => rfl) dX11_restore_36 (fun x8 => ?_)
    refine g_iload_n (pc := 39) dX11_restore_39 1 rfl ?_
    refine g_aald (pc := 40) (t := 4) (Nat.le_of_ble_eq_true rfl) (Nat.le_of_ble_eq_true rfl) dX11_restore_40 (fun x9 => ?_)
    refine g_gS (fun hs => ?_)
    refine g_bRv (pc := 41) (c_VN cl10 hs (p_X10_copyFrom hl x6 x9 h1) y_X10_copyFrom tw1352 dX11_restore_41 rfl (st := []) rfl (Nat.le_of_ble_eq_true rfl) (Nat.le_of_ble_eq_true rfl) (Nat.le_of_ble_eq_true rfl)) (fun _ h2 => ?_)
    refine g_aload_n (pc := 44) dX11_restore_44 0 rfl ?_
    refine g_getr (pc := 45) cl11 (Nat.le_of_ble_eq_true rfl) fk498 (fun _ _ _ => rfl) dX11_restore_45 (fun x10 => ?_)
    refine g_iconst (pc := 48) dX11_restore_48 ci_0 ?_
    refine g_puti (pc := 49) cl2 (Nat.le_of_ble_eq_true rfl) (Or.inl ⟨rfl, fk470⟩) (fun _ _ _ => rfl) (fun _ => ⟨rfl, rfl⟩) dX11_restore_49 (fun h3 => ?_)
    exact g_ret (pc := 52) rfl isRet_v dX11_restore_52 rfl
theorem p_X11_restore {l : Launch} {E : aE} (hl : l.stackTraces = false) (x1 : Nat) (x2 : Int32) (h0 : aH) : MO (eT (fun (_ : Unit) => none)) l E yX11_restore (.code yX11_restore cX11_restore 2 none) 7 111 [.ref (e_z E + x1), .int x2] h0 (m_X11_restore x1 x2 h0) := g_met hl (by decide +kernel) (Nat.le_of_ble_eq_true rfl) (b_X11_restore hl _ _ x1 x2 h0)
