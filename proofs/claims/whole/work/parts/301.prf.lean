/-! proofs of methods -/
theorem dX4_freeWithin_0 : decode cX4_freeWithin 0 = .ok (.iconst 0, 1) := by decide +kernel
theorem dX4_freeWithin_1 : decode cX4_freeWithin 1 = .ok (.istore_n 2, 1) := by decide +kernel
theorem dX4_freeWithin_2 : decode cX4_freeWithin 2 = .ok (.iconst 0, 1) := by decide +kernel
theorem dX4_freeWithin_3 : decode cX4_freeWithin 3 = .ok (.istore_n 3, 1) := by decide +kernel
theorem dX4_freeWithin_4 : decode cX4_freeWithin 4 = .ok (.iload_n 3, 1) := by decide +kernel
theorem dX4_freeWithin_5 : decode cX4_freeWithin 5 = .ok (.aload_n 0, 1) := by decide +kernel
theorem dX4_freeWithin_6 : decode cX4_freeWithin 6 = .ok (.getfield 43, 3) := by decide +kernel
theorem dX4_freeWithin_9 : decode cX4_freeWithin 9 = .ok (.getfield 83, 3) := by decide +kernel
theorem dX4_freeWithin_12 : decode cX4_freeWithin 12 = .ok (.if_icmp .ge 36, 3) := by decide +kernel
theorem dX4_freeWithin_15 : decode cX4_freeWithin 15 = .ok (.aload_n 0, 1) := by decide +kernel
theorem dX4_freeWithin_16 : decode cX4_freeWithin 16 = .ok (.getfield 52, 3) := by decide +kernel
theorem dX4_freeWithin_19 : decode cX4_freeWithin 19 = .ok (.iload_n 3, 1) := by decide +kernel
theorem dX4_freeWithin_20 : decode cX4_freeWithin 20 = .ok (.invokestatic 92, 3) := by decide +kernel
theorem dX4_freeWithin_23 : decode cX4_freeWithin 23 = .ok (.ifCond .eq 19, 3) := by decide +kernel
theorem dX4_freeWithin_26 : decode cX4_freeWithin 26 = .ok (.aload_n 0, 1) := by decide +kernel
theorem dX4_freeWithin_27 : decode cX4_freeWithin 27 = .ok (.getfield 15, 3) := by decide +kernel
theorem dX4_freeWithin_30 : decode cX4_freeWithin 30 = .ok (.iload_n 3, 1) := by decide +kernel
theorem dX4_freeWithin_31 : decode cX4_freeWithin 31 = .ok (.iaload, 1) := by decide +kernel
theorem dX4_freeWithin_32 : decode cX4_freeWithin 32 = .ok (.iload_n 1, 1) := by decide +kernel
theorem dX4_freeWithin_33 : decode cX4_freeWithin 33 = .ok (.if_icmp .gt 9, 3) := by decide +kernel
theorem dX4_freeWithin_36 : decode cX4_freeWithin 36 = .ok (.iload_n 2, 1) := by decide +kernel
theorem dX4_freeWithin_37 : decode cX4_freeWithin 37 = .ok (.iconst 1, 1) := by decide +kernel
theorem dX4_freeWithin_38 : decode cX4_freeWithin 38 = .ok (.iload_n 3, 1) := by decide +kernel
theorem dX4_freeWithin_39 : decode cX4_freeWithin 39 = .ok (.ishl, 1) := by decide +kernel
theorem dX4_freeWithin_40 : decode cX4_freeWithin 40 = .ok (.ior, 1) := by decide +kernel
theorem dX4_freeWithin_41 : decode cX4_freeWithin 41 = .ok (.istore_n 2, 1) := by decide +kernel
theorem dX4_freeWithin_42 : decode cX4_freeWithin 42 = .ok (.iinc 3 1, 3) := by decide +kernel
theorem dX4_freeWithin_45 : decode cX4_freeWithin 45 = .ok (.goto (-41), 3) := by decide +kernel
theorem dX4_freeWithin_48 : decode cX4_freeWithin 48 = .ok (.iload_n 2, 1) := by decide +kernel
theorem dX4_freeWithin_49 : decode cX4_freeWithin 49 = .ok (.ireturn, 1) := by decide +kernel
abbrev M_X4_freeWithin : aM := (yX4_freeWithin.cls, cX4_freeWithin, 4, (some .int), [], yX4_freeWithin.name == "<init>")
abbrev J_X4_freeWithin (l : Launch) (E : aE) (n0 m0 : Nat) := GG (fun (v : Int32) => .inl (some (.int v))) l E M_X4_freeWithin 1 21 n0 m0
theorem b_X4_freeWithin {l : Launch} {E : aE} (hl : l.stackTraces = false) (n0 m0 : Nat) (x1 : Nat) (x2 : Int32) (h0 : aH) : J_X4_freeWithin l E n0 m0 0 [(0, .ref (e_z E + x1)), (1, .int x2)] [] h0 (m_X4_freeWithin x1 x2 h0) := by
  unfold m_X4_freeWithin
  refine g_iconst (pc := 0) dX4_freeWithin_0 ci_0 ?_
  refine g_istore_n (pc := 1) (lv' := [(2, .int (0 : Int32)), (0, .ref (e_z E + x1)), (1, .int x2)]) dX4_freeWithin_1 (Nat.le_of_ble_eq_true rfl) rfl ?_
  refine g_iconst (pc := 2) dX4_freeWithin_2 ci_0 ?_
  refine g_istore_n (pc := 3) (lv' := [(3, .int (0 : Int32)), (2, .int (0 : Int32)), (0, .ref (e_z E + x1)), (1, .int x2)]) dX4_freeWithin_3 (Nat.le_of_ble_eq_true rfl) rfl ?_
  refine g_join (fun k => ∀ (x3 : Int32) (h1 : aH), J_X4_freeWithin l E n0 m0 48 [(2, .int x3)] [] h1 (k x3 h1)) (fun x3 h1 => ?_) (fun k48 hk48 => ?_)
  · refine g_iload_n (pc := 48) dX4_freeWithin_48 0 rfl ?_
    exact g_ret (pc := 49) rfl (isRet_i _) dX4_freeWithin_49 rfl
  refine g_lv [2, 3, 1, 0] rfl ?_
  refine g_loop2 (F := (m_X4_freeWithin_L4 x1 x2 k48)) (fun x4 x5 => [(0, .ref (e_z E + x1)), (1, .int x2), (2, .int x4), (3, .int x5)]) (fun r4 hr4 x4 x5 h2 => ?_) _ _ _ _
  unfold m_X4_freeWithin_L4
  refine g_iload_n (pc := 4) dX4_freeWithin_4 3 rfl ?_
  refine g_aload_n (pc := 5) dX4_freeWithin_5 0 rfl ?_
  refine g_getr (pc := 6) cl4 (Nat.le_of_ble_eq_true rfl) fk422 (fun _ _ _ => rfl) dX4_freeWithin_6 (fun x6 => ?_)
  refine g_geti (pc := 9) cl8 (Nat.le_of_ble_eq_true rfl) fk239 (fun _ _ _ => rfl) dX4_freeWithin_9 (fun x7 => ?_)
  refine g_icmpge (pc := 12) (tgt := 48) dX4_freeWithin_12 rfl ?_ ?_
  · refine g_aload_n (pc := 15) dX4_freeWithin_15 0 rfl ?_
    refine g_geti (pc := 16) cl4 (Nat.le_of_ble_eq_true rfl) fk427 (fun _ _ _ => rfl) dX4_freeWithin_16 (fun x8 => ?_)
    refine g_iload_n (pc := 19) dX4_freeWithin_19 3 rfl ?_
    refine g_bRi (pc := 20) (c_SN (p_X11_has hl x8 x5 h2) y_X11_has tw1234 dX4_freeWithin_20 rfl (st := []) rfl (Nat.le_of_ble_eq_true rfl) (Nat.le_of_ble_eq_true rfl) (Nat.le_of_ble_eq_true rfl)) (fun x9 h3 => ?_)
    refine g_join (fun k => ∀ (x10 : Int32) (h4 : aH), J_X4_freeWithin l E n0 m0 42 [(0, .ref (e_z E + x1)), (1, .int x2), (2, .int x10), (3, .int x5)] [] h4 (k x10 h4)) (fun x10 h4 => ?_) (fun k42 hk42 => ?_)
    · refine g_iincN (pc := 42) dX4_freeWithin_42 3 rfl ci_1 (Nat.le_of_ble_eq_true rfl) (fun x11 => ?_)
      refine g_lvr (lv' := [(3, .int x11), (0, .ref (e_z E + x1)), (1, .int x2), (2, .int x10)]) rfl ?_
      refine g_goto (pc := 45) (tgt := 4) dX4_freeWithin_45 rfl ?_
      refine g_lv [1, 2, 3, 0] rfl ?_
      exact hr4 x10 x11 h4
    refine g_ifeq (pc := 23) (tgt := 42) dX4_freeWithin_23 rfl ?_ ?_
    · exact hk42 x4 h3
    · refine g_aload_n (pc := 26) dX4_freeWithin_26 0 rfl ?_
      refine g_getr (pc := 27) cl4 (Nat.le_of_ble_eq_true rfl) fk425 (fun _ _ _ => rfl) dX4_freeWithin_27 (fun x12 => ?_)
      refine g_iload_n (pc := 30) dX4_freeWithin_30 3 rfl ?_
      refine g_iald (pc := 31) dX4_freeWithin_31 (fun x13 => ?_)
      refine g_iload_n (pc := 32) dX4_freeWithin_32 1 rfl ?_
      refine g_icmpgt (pc := 33) (tgt := 42) dX4_freeWithin_33 rfl ?_ ?_
      · refine g_iload_n (pc := 36) dX4_freeWithin_36 2 rfl ?_
        refine g_iconst (pc := 37) dX4_freeWithin_37 ci_1 ?_
        refine g_iload_n (pc := 38) dX4_freeWithin_38 3 rfl ?_
        refine g_ishl (pc := 39) dX4_freeWithin_39 ?_
        refine g_ior (pc := 40) dX4_freeWithin_40 ?_
        refine g_topi (fun x14 => ?_)
        refine g_istore_n (pc := 41) (lv' := [(2, .int x14), (0, .ref (e_z E + x1)), (1, .int x2), (3, .int x5)]) dX4_freeWithin_41 (Nat.le_of_ble_eq_true rfl) rfl ?_
        refine g_lv [1, 2, 0, 3] rfl ?_
        exact hk42 x14 h3
      · exact hk42 x4 h3
  · refine g_lv [2] rfl ?_
    exact hk48 x4 h2
theorem p_X4_freeWithin {l : Launch} {E : aE} (hl : l.stackTraces = false) (x1 : Nat) (x2 : Int32) (h0 : aH) : MO (fun (v : Int32) => .inl (some (.int v))) l E yX4_freeWithin (.code yX4_freeWithin cX4_freeWithin 4 (some .int)) 1 21 [.ref (e_z E + x1), .int x2] h0 (m_X4_freeWithin x1 x2 h0) := g_met hl (by decide +kernel) (Nat.le_of_ble_eq_true rfl) (b_X4_freeWithin hl _ _ x1 x2 h0)
theorem dX4_earliestDeparture_0 : decode cX4_earliestDeparture 0 = .ok (.sipush 1440, 3) := by decide +kernel
theorem dX4_earliestDeparture_3 : decode cX4_earliestDeparture 3 = .ok (.istore_n 2, 1) := by decide +kernel
theorem dX4_earliestDeparture_4 : decode cX4_earliestDeparture 4 = .ok (.iconst 0, 1) := by decide +kernel
theorem dX4_earliestDeparture_5 : decode cX4_earliestDeparture 5 = .ok (.istore_n 3, 1) := by decide +kernel
theorem dX4_earliestDeparture_6 : decode cX4_earliestDeparture 6 = .ok (.iload_n 3, 1) := by decide +kernel
theorem dX4_earliestDeparture_7 : decode cX4_earliestDeparture 7 = .ok (.aload_n 0, 1) := by decide +kernel
theorem dX4_earliestDeparture_8 : decode cX4_earliestDeparture 8 = .ok (.getfield 43, 3) := by decide +kernel
theorem dX4_earliestDeparture_11 : decode cX4_earliestDeparture 11 = .ok (.getfield 83, 3) := by decide +kernel
theorem dX4_earliestDeparture_14 : decode cX4_earliestDeparture 14 = .ok (.if_icmp .ge 61, 3) := by decide +kernel
theorem dX4_earliestDeparture_17 : decode cX4_earliestDeparture 17 = .ok (.aload_n 0, 1) := by decide +kernel
theorem dX4_earliestDeparture_18 : decode cX4_earliestDeparture 18 = .ok (.getfield 15, 3) := by decide +kernel
theorem dX4_earliestDeparture_21 : decode cX4_earliestDeparture 21 = .ok (.iload_n 3, 1) := by decide +kernel
theorem dX4_earliestDeparture_22 : decode cX4_earliestDeparture 22 = .ok (.iaload, 1) := by decide +kernel
theorem dX4_earliestDeparture_23 : decode cX4_earliestDeparture 23 = .ok (.istore 4, 2) := by decide +kernel
theorem dX4_earliestDeparture_25 : decode cX4_earliestDeparture 25 = .ok (.aload_n 0, 1) := by decide +kernel
theorem dX4_earliestDeparture_26 : decode cX4_earliestDeparture 26 = .ok (.getfield 52, 3) := by decide +kernel
theorem dX4_earliestDeparture_29 : decode cX4_earliestDeparture 29 = .ok (.iload_n 3, 1) := by decide +kernel
theorem dX4_earliestDeparture_30 : decode cX4_earliestDeparture 30 = .ok (.invokestatic 92, 3) := by decide +kernel
theorem dX4_earliestDeparture_33 : decode cX4_earliestDeparture 33 = .ok (.ifCond .eq 36, 3) := by decide +kernel
theorem dX4_earliestDeparture_36 : decode cX4_earliestDeparture 36 = .ok (.iload 4, 2) := by decide +kernel
theorem dX4_earliestDeparture_38 : decode cX4_earliestDeparture 38 = .ok (.iload_n 2, 1) := by decide +kernel
theorem dX4_earliestDeparture_39 : decode cX4_earliestDeparture 39 = .ok (.if_icmp .ge 30, 3) := by decide +kernel
theorem dX4_earliestDeparture_42 : decode cX4_earliestDeparture 42 = .ok (.aload_n 0, 1) := by decide +kernel
theorem dX4_earliestDeparture_43 : decode cX4_earliestDeparture 43 = .ok (.getfield 43, 3) := by decide +kernel
theorem dX4_earliestDeparture_46 : decode cX4_earliestDeparture 46 = .ok (.aload_n 1, 1) := by decide +kernel
theorem dX4_earliestDeparture_47 : decode cX4_earliestDeparture 47 = .ok (.getfield 115, 3) := by decide +kernel
theorem dX4_earliestDeparture_50 : decode cX4_earliestDeparture 50 = .ok (.aload_n 0, 1) := by decide +kernel
theorem dX4_earliestDeparture_51 : decode cX4_earliestDeparture 51 = .ok (.iload 4, 2) := by decide +kernel
theorem dX4_earliestDeparture_53 : decode cX4_earliestDeparture 53 = .ok (.invokevirtual 137, 3) := by decide +kernel
theorem dX4_earliestDeparture_56 : decode cX4_earliestDeparture 56 = .ok (.invokevirtual 120, 3) := by decide +kernel
theorem dX4_earliestDeparture_59 : decode cX4_earliestDeparture 59 = .ok (.aload_n 1, 1) := by decide +kernel
theorem dX4_earliestDeparture_60 : decode cX4_earliestDeparture 60 = .ok (.getfield 130, 3) := by decide +kernel
theorem dX4_earliestDeparture_63 : decode cX4_earliestDeparture 63 = .ok (.if_icmp .ne 6, 3) := by decide +kernel
theorem dX4_earliestDeparture_66 : decode cX4_earliestDeparture 66 = .ok (.iload 4, 2) := by decide +kernel
theorem dX4_earliestDeparture_68 : decode cX4_earliestDeparture 68 = .ok (.istore_n 2, 1) := by decide +kernel
theorem dX4_earliestDeparture_69 : decode cX4_earliestDeparture 69 = .ok (.iinc 3 1, 3) := by decide +kernel
theorem dX4_earliestDeparture_72 : decode cX4_earliestDeparture 72 = .ok (.goto (-66), 3) := by decide +kernel
theorem dX4_earliestDeparture_75 : decode cX4_earliestDeparture 75 = .ok (.iload_n 2, 1) := by decide +kernel
theorem dX4_earliestDeparture_76 : decode cX4_earliestDeparture 76 = .ok (.ireturn, 1) := by decide +kernel
abbrev M_X4_earliestDeparture : aM := (yX4_earliestDeparture.cls, cX4_earliestDeparture, 5, (some .int), [], yX4_earliestDeparture.name == "<init>")
abbrev J_X4_earliestDeparture (l : Launch) (E : aE) (n0 m0 : Nat) := GG (fun (v : Int32) => .inl (some (.int v))) l E M_X4_earliestDeparture 2 55 n0 m0
theorem b_X4_earliestDeparture {l : Launch} {E : aE} (hl : l.stackTraces = false) (n0 m0 : Nat) (x1 : Nat) (x2 : Nat) (h0 : aH) : J_X4_earliestDeparture l E n0 m0 0 [(0, .ref (e_z E + x1)), (1, .ref (e_z E + x2))] [] h0 (m_X4_earliestDeparture x1 x2 h0) := by
  unfold m_X4_earliestDeparture
  refine g_sipush (pc := 0) dX4_earliestDeparture_0 cs_1440 ?_
  refine g_istore_n (pc := 3) (lv' := [(2, .int (1440 : Int32)), (0, .ref (e_z E + x1)), (1, .ref (e_z E + x2))]) dX4_earliestDeparture_3 (Nat.le_of_ble_eq_true rfl) rfl ?_
  refine g_iconst (pc := 4) dX4_earliestDeparture_4 ci_0 ?_
  refine g_istore_n (pc := 5) (lv' := [(3, .int (0 : Int32)), (2, .int (1440 : Int32)), (0, .ref (e_z E + x1)), (1, .ref (e_z E + x2))]) dX4_earliestDeparture_5 (Nat.le_of_ble_eq_true rfl) rfl ?_
  refine g_join (fun k => ∀ (x3 : Int32) (h1 : aH), J_X4_earliestDeparture l E n0 m0 75 [(2, .int x3)] [] h1 (k x3 h1)) (fun x3 h1 => ?_) (fun k75 hk75 => ?_)
  · refine g_iload_n (pc := 75) dX4_earliestDeparture_75 0 rfl ?_
    exact g_ret (pc := 76) rfl (isRet_i _) dX4_earliestDeparture_76 rfl
  refine g_lv [2, 3, 1, 0] rfl ?_
  refine g_loop2 (F := (m_X4_earliestDeparture_L6 x1 x2 k75)) (fun x4 x5 => [(0, .ref (e_z E + x1)), (1, .ref (e_z E + x2)), (2, .int x4), (3, .int x5)]) (fun r6 hr6 x4 x5 h2 => ?_) _ _ _ _
  unfold m_X4_earliestDeparture_L6
  refine g_iload_n (pc := 6) dX4_earliestDeparture_6 3 rfl ?_
  refine g_aload_n (pc := 7) dX4_earliestDeparture_7 0 rfl ?_
  refine g_getr (pc := 8) cl4 (Nat.le_of_ble_eq_true rfl) fk422 (fun _ _ _ => rfl) dX4_earliestDeparture_8 (fun x6 => ?_)
  refine g_geti (pc := 11) cl8 (Nat.le_of_ble_eq_true rfl) fk239 (fun _ _ _ => rfl) dX4_earliestDeparture_11 (fun x7 => ?_)
  refine g_icmpge (pc := 14) (tgt := 75) dX4_earliestDeparture_14 rfl ?_ ?_
  · refine g_aload_n (pc := 17) dX4_earliestDeparture_17 0 rfl ?_
    refine g_getr (pc := 18) cl4 (Nat.le_of_ble_eq_true rfl) fk425 (fun _ _ _ => rfl) dX4_earliestDeparture_18 (fun x8 => ?_)
    refine g_iload_n (pc := 21) dX4_earliestDeparture_21 3 rfl ?_
    refine g_iald (pc := 22) dX4_earliestDeparture_22 (fun x9 => ?_)
    refine g_istore (pc := 23) (lv' := [(4, .int x9), (0, .ref (e_z E + x1)), (1, .ref (e_z E + x2)), (2, .int x4), (3, .int x5)]) dX4_earliestDeparture_23 (Nat.le_of_ble_eq_true rfl) rfl ?_
    refine g_aload_n (pc := 25) dX4_earliestDeparture_25 1 rfl ?_
    refine g_geti (pc := 26) cl4 (Nat.le_of_ble_eq_true rfl) fk427 (fun _ _ _ => rfl) dX4_earliestDeparture_26 (fun x10 => ?_)
    refine g_iload_n (pc := 29) dX4_earliestDeparture_29 4 rfl ?_
    refine g_bRi (pc := 30) (c_SN (p_X11_has hl x10 x5 h2) y_X11_has tw1234 dX4_earliestDeparture_30 rfl (st := []) rfl (Nat.le_of_ble_eq_true rfl) (Nat.le_of_ble_eq_true rfl) (Nat.le_of_ble_eq_true rfl)) (fun x11 h3 => ?_)
    refine g_join (fun k => ∀ (x12 : Int32) (h4 : aH), J_X4_earliestDeparture l E n0 m0 69 [(0, .ref (e_z E + x1)), (1, .ref (e_z E + x2)), (2, .int x12), (3, .int x5)] [] h4 (k x12 h4)) (fun x12 h4 => ?_) (fun k69 hk69 => ?_)
    · refine g_iincN (pc := 69) dX4_earliestDeparture_69 3 rfl ci_1 (Nat.le_of_ble_eq_true rfl) (fun x13 => ?_)
      refine g_lvr (lv' := [(3, .int x13), (0, .ref (e_z E + x1)), (1, .ref (e_z E + x2)), (2, .int x12)]) rfl ?_
      refine g_goto (pc := 72) (tgt := 6) dX4_earliestDeparture_72 rfl ?_
      refine g_lv [1, 2, 3, 0] rfl ?_
      exact hr6 x12 x13 h4
    refine g_ifeq (pc := 33) (tgt := 69) dX4_earliestDeparture_33 rfl ?_ ?_
    · refine g_lv [1, 2, 3, 4] rfl ?_
      exact hk69 x4 h3
    · refine g_iload (pc := 36) dX4_earliestDeparture_36 0 rfl ?_
      refine g_iload_n (pc := 38) dX4_earliestDeparture_38 3 rfl ?_
      refine g_icmpge (pc := 39) (tgt := 69) dX4_earliestDeparture_39 rfl ?_ ?_
      · refine g_aload_n (pc := 42) dX4_earliestDeparture_42 1 rfl ?_
        refine g_getr (pc := 43) cl4 (Nat.le_of_ble_eq_true rfl) fk422 (fun _ _ _ => rfl) dX4_earliestDeparture_43 (fun x14 => ?_)
        refine g_aload_n (pc := 46) dX4_earliestDeparture_46 2 rfl ?_
        refine g_getr (pc := 47) cl1 (Nat.le_of_ble_eq_true rfl) fk179 (fun _ _ _ => rfl) dX4_earliestDeparture_47 (fun x15 => ?_)
        refine g_aload_n (pc := 50) dX4_earliestDeparture_50 1 rfl ?_
        refine g_iload (pc := 51) dX4_earliestDeparture_51 0 rfl ?_
        refine g_gS (fun hs => ?_)
        refine g_bRi (pc := 53) (c_V cl4 hs (p_X4_freeWithin hl x1 x9 h3) y_X4_freeWithin tw1261 dX4_earliestDeparture_53 rfl (st := [.ref (e_z E + x15), .ref (e_z E + x14)]) rfl (Nat.le_of_ble_eq_true rfl) (Nat.le_of_ble_eq_true rfl) (Nat.le_of_ble_eq_true rfl)) (fun x16 h5 => ?_)
        refine g_gS (fun hs => ?_)
        refine g_bRi (pc := 56) (c_VN cl8 hs (p_X8_mostManned hl x14 x15 x16 h5) y_X8_mostManned tw1245 dX4_earliestDeparture_56 rfl (st := []) rfl (Nat.le_of_ble_eq_true rfl) (Nat.le_of_ble_eq_true rfl) (Nat.le_of_ble_eq_true rfl)) (fun x17 h6 => ?_)
        refine g_aload_n (pc := 59) dX4_earliestDeparture_59 2 rfl ?_
        refine g_geti (pc := 60) cl1 (Nat.le_of_ble_eq_true rfl) fk173 (fun _ _ _ => rfl) dX4_earliestDeparture_60 (fun x18 => ?_)
        refine g_icmpne (pc := 63) (tgt := 69) dX4_earliestDeparture_63 rfl ?_ ?_
        · refine g_iload (pc := 66) dX4_earliestDeparture_66 0 rfl ?_
          refine g_istore_n (pc := 68) (lv' := [(2, .int x9), (4, .int x9), (0, .ref (e_z E + x1)), (1, .ref (e_z E + x2)), (3, .int x5)]) dX4_earliestDeparture_68 (Nat.le_of_ble_eq_true rfl) rfl ?_
          refine g_lv [2, 3, 0, 4] rfl ?_
          exact hk69 x9 h6
        · refine g_lv [1, 2, 3, 4] rfl ?_
          exact hk69 x4 h6
      · refine g_lv [1, 2, 3, 4] rfl ?_
        exact hk69 x4 h3
  · refine g_lv [2] rfl ?_
    exact hk75 x4 h2
theorem p_X4_earliestDeparture {l : Launch} {E : aE} (hl : l.stackTraces = false) (x1 : Nat) (x2 : Nat) (h0 : aH) : MO (fun (v : Int32) => .inl (some (.int v))) l E yX4_earliestDeparture (.code yX4_earliestDeparture cX4_earliestDeparture 5 (some .int)) 2 55 [.ref (e_z E + x1), .ref (e_z E + x2)] h0 (m_X4_earliestDeparture x1 x2 h0) := g_met hl (by decide +kernel) (Nat.le_of_ble_eq_true rfl) (b_X4_earliestDeparture hl _ _ x1 x2 h0)
theorem dX4_firstCrew_0 : decode cX4_firstCrew 0 = .ok (.iconst 0, 1) := by decide +kernel
theorem dX4_firstCrew_1 : decode cX4_firstCrew 1 = .ok (.istore_n 3, 1) := by decide +kernel
theorem dX4_firstCrew_2 : decode cX4_firstCrew 2 = .ok (.iconst 0, 1) := by decide +kernel
theorem dX4_firstCrew_3 : decode cX4_firstCrew 3 = .ok (.istore 4, 2) := by decide +kernel
theorem dX4_firstCrew_5 : decode cX4_firstCrew 5 = .ok (.iconst 0, 1) := by decide +kernel
theorem dX4_firstCrew_6 : decode cX4_firstCrew 6 = .ok (.istore 5, 2) := by decide +kernel
theorem dX4_firstCrew_8 : decode cX4_firstCrew 8 = .ok (.iload 5, 2) := by decide +kernel
theorem dX4_firstCrew_10 : decode cX4_firstCrew 10 = .ok (.aload_n 0, 1) := by decide +kernel
theorem dX4_firstCrew_11 : decode cX4_firstCrew 11 = .ok (.getfield 43, 3) := by decide +kernel
theorem dX4_firstCrew_14 : decode cX4_firstCrew 14 = .ok (.getfield 83, 3) := by decide +kernel
theorem dX4_firstCrew_17 : decode cX4_firstCrew 17 = .ok (.if_icmp .ge 50, 3) := by decide +kernel
theorem dX4_firstCrew_20 : decode cX4_firstCrew 20 = .ok (.iload_n 3, 1) := by decide +kernel
theorem dX4_firstCrew_21 : decode cX4_firstCrew 21 = .ok (.iconst 1, 1) := by decide +kernel
theorem dX4_firstCrew_22 : decode cX4_firstCrew 22 = .ok (.iload 5, 2) := by decide +kernel
theorem dX4_firstCrew_24 : decode cX4_firstCrew 24 = .ok (.ishl, 1) := by decide +kernel
theorem dX4_firstCrew_25 : decode cX4_firstCrew 25 = .ok (.ior, 1) := by decide +kernel
theorem dX4_firstCrew_26 : decode cX4_firstCrew 26 = .ok (.istore 6, 2) := by decide +kernel
theorem dX4_firstCrew_28 : decode cX4_firstCrew 28 = .ok (.iload_n 2, 1) := by decide +kernel
theorem dX4_firstCrew_29 : decode cX4_firstCrew 29 = .ok (.iload 5, 2) := by decide +kernel
theorem dX4_firstCrew_31 : decode cX4_firstCrew 31 = .ok (.invokestatic 92, 3) := by decide +kernel
theorem dX4_firstCrew_34 : decode cX4_firstCrew 34 = .ok (.ifCond .eq 27, 3) := by decide +kernel
theorem dX4_firstCrew_37 : decode cX4_firstCrew 37 = .ok (.aload_n 0, 1) := by decide +kernel
theorem dX4_firstCrew_38 : decode cX4_firstCrew 38 = .ok (.getfield 43, 3) := by decide +kernel
theorem dX4_firstCrew_41 : decode cX4_firstCrew 41 = .ok (.aload_n 1, 1) := by decide +kernel
theorem dX4_firstCrew_42 : decode cX4_firstCrew 42 = .ok (.getfield 115, 3) := by decide +kernel
theorem dX4_firstCrew_45 : decode cX4_firstCrew 45 = .ok (.iload 6, 2) := by decide +kernel
theorem dX4_firstCrew_47 : decode cX4_firstCrew 47 = .ok (.invokevirtual 120, 3) := by decide +kernel
theorem dX4_firstCrew_50 : decode cX4_firstCrew 50 = .ok (.iload 4, 2) := by decide +kernel
theorem dX4_firstCrew_52 : decode cX4_firstCrew 52 = .ok (.if_icmp .le 9, 3) := by decide +kernel
theorem dX4_firstCrew_55 : decode cX4_firstCrew 55 = .ok (.iload 6, 2) := by decide +kernel
theorem dX4_firstCrew_57 : decode cX4_firstCrew 57 = .ok (.istore_n 3, 1) := by decide +kernel
theorem dX4_firstCrew_58 : decode cX4_firstCrew 58 = .ok (.iinc 4 1, 3) := by decide +kernel
theorem dX4_firstCrew_61 : decode cX4_firstCrew 61 = .ok (.iinc 5 1, 3) := by decide +kernel
theorem dX4_firstCrew_64 : decode cX4_firstCrew 64 = .ok (.goto (-56), 3) := by decide +kernel
theorem dX4_firstCrew_67 : decode cX4_firstCrew 67 = .ok (.iload_n 3, 1) := by decide +kernel
theorem dX4_firstCrew_68 : decode cX4_firstCrew 68 = .ok (.ireturn, 1) := by decide +kernel
abbrev M_X4_firstCrew : aM := (yX4_firstCrew.cls, cX4_firstCrew, 7, (some .int), [], yX4_firstCrew.name == "<init>")
abbrev J_X4_firstCrew (l : Launch) (E : aE) (n0 m0 : Nat) := GG (fun (v : Int32) => .inl (some (.int v))) l E M_X4_firstCrew 2 55 n0 m0
theorem b_X4_firstCrew {l : Launch} {E : aE} (hl : l.stackTraces = false) (n0 m0 : Nat) (x1 : Nat) (x2 : Nat) (x3 : Int32) (h0 : aH) : J_X4_firstCrew l E n0 m0 0 [(0, .ref (e_z E + x1)), (1, .ref (e_z E + x2)), (2, .int x3)] [] h0 (m_X4_firstCrew x1 x2 x3 h0) := by
  unfold m_X4_firstCrew
  refine g_iconst (pc := 0) dX4_firstCrew_0 ci_0 ?_
  refine g_istore_n (pc := 1) (lv' := [(3, .int (0 : Int32)), (0, .ref (e_z E + x1)), (1, .ref (e_z E + x2)), (2, .int x3)]) dX4_firstCrew_1 (Nat.le_of_ble_eq_true rfl) rfl ?_
  refine g_iconst (pc := 2) dX4_firstCrew_2 ci_0 ?_
  refine g_istore (pc := 3) (lv' := [(4, .int (0 : Int32)), (3, .int (0 : Int32)), (0, .ref (e_z E + x1)), (1, .ref (e_z E + x2)), (2, .int x3)]) dX4_firstCrew_3 (Nat.le_of_ble_eq_true rfl) rfl ?_
  refine g_iconst (pc := 5) dX4_firstCrew_5 ci_0 ?_
  refine g_istore (pc := 6) (lv' := [(5, .int (0 : Int32)), (4, .int (0 : Int32)), (3, .int (0 : Int32)), (0, .ref (e_z E + x1)), (1, .ref (e_z E + x2)), (2, .int x3)]) dX4_firstCrew_6 (Nat.le_of_ble_eq_true rfl) rfl ?_
  refine g_join (fun k => ∀ (x4 : Int32) (h1 : aH), J_X4_firstCrew l E n0 m0 67 [(3, .int x4)] [] h1 (k x4 h1)) (fun x4 h1 => ?_) (fun k67 hk67 => ?_)
  · refine g_iload_n (pc := 67) dX4_firstCrew_67 0 rfl ?_
    exact g_ret (pc := 68) rfl (isRet_i _) dX4_firstCrew_68 rfl
  refine g_lv [3, 4, 5, 2, 1, 0] rfl ?_
  refine g_loop3 (F := (m_X4_firstCrew_L8 x1 x2 x3 k67)) (fun x5 x6 x7 => [(0, .ref (e_z E + x1)), (1, .ref (e_z E + x2)), (2, .int x3), (3, .int x5), (4, .int x6), (5, .int x7)]) (fun r8 hr8 x5 x6 x7 h2 => ?_) _ _ _ _ _
  unfold m_X4_firstCrew_L8
  refine g_iload (pc := 8) dX4_firstCrew_8 5 rfl ?_
  refine g_aload_n (pc := 10) dX4_firstCrew_10 0 rfl ?_
  refine g_getr (pc := 11) cl4 (Nat.le_of_ble_eq_true rfl) fk422 (fun _ _ _ => rfl) dX4_firstCrew_11 (fun x8 => ?_)
  refine g_geti (pc := 14) cl8 (Nat.le_of_ble_eq_true rfl) fk239 (fun _ _ _ => rfl) dX4_firstCrew_14 (fun x9 => ?_)
  refine g_icmpge (pc := 17) (tgt := 67) dX4_firstCrew_17 rfl ?_ ?_
  · refine g_iload_n (pc := 20) dX4_firstCrew_20 3 rfl ?_
    refine g_iconst (pc := 21) dX4_firstCrew_21 ci_1 ?_
    refine g_iload (pc := 22) dX4_firstCrew_22 5 rfl ?_
    refine g_ishl (pc := 24) dX4_firstCrew_24 ?_
    refine g_ior (pc := 25) dX4_firstCrew_25 ?_
    refine g_topi (fun x10 => ?_)
    refine g_istore (pc := 26) (lv' := [(6, .int x10), (0, .ref (e_z E + x1)), (1, .ref (e_z E + x2)), (2, .int x3), (3, .int x5), (4, .int x6), (5, .int x7)]) dX4_firstCrew_26 (Nat.le_of_ble_eq_true rfl) rfl ?_
    refine g_iload_n (pc := 28) dX4_firstCrew_28 3 rfl ?_
    refine g_iload (pc := 29) dX4_firstCrew_29 6 rfl ?_
    refine g_bRi (pc := 31) (c_SN (p_X11_has hl x3 x7 h2) y_X11_has tw1234 dX4_firstCrew_31 rfl (st := []) rfl (Nat.le_of_ble_eq_true rfl) (Nat.le_of_ble_eq_true rfl) (Nat.le_of_ble_eq_true rfl)) (fun x11 h3 => ?_)
    refine g_join (fun k => ∀ (x12 : Int32) (x13 : Int32) (h4 : aH), J_X4_firstCrew l E n0 m0 61 [(0, .ref (e_z E + x1)), (1, .ref (e_z E + x2)), (2, .int x3), (3, .int x12), (4, .int x13), (5, .int x7)] [] h4 (k x12 x13 h4)) (fun x12 x13 h4 => ?_) (fun k61 hk61 => ?_)
    · refine g_iincN (pc := 61) dX4_firstCrew_61 5 rfl ci_1 (Nat.le_of_ble_eq_true rfl) (fun x14 => ?_)
      refine g_lvr (lv' := [(5, .int x14), (0, .ref (e_z E + x1)), (1, .ref (e_z E + x2)), (2, .int x3), (3, .int x12), (4, .int x13)]) rfl ?_
      refine g_goto (pc := 64) (tgt := 8) dX4_firstCrew_64 rfl ?_
      refine g_lv [1, 2, 3, 4, 5, 0] rfl ?_
      exact hr8 x12 x13 x14 h4
    refine g_ifeq (pc := 34) (tgt := 61) dX4_firstCrew_34 rfl ?_ ?_
    · refine g_lv [1, 2, 3, 4, 5, 6] rfl ?_
      exact hk61 x5 x6 h3
    · refine g_aload_n (pc := 37) dX4_firstCrew_37 1 rfl ?_
      refine g_getr (pc := 38) cl4 (Nat.le_of_ble_eq_true rfl) fk422 (fun _ _ _ => rfl) dX4_firstCrew_38 (fun x15 => ?_)
      refine g_aload_n (pc := 41) dX4_firstCrew_41 2 rfl ?_
      refine g_getr (pc := 42) cl1 (Nat.le_of_ble_eq_true rfl) fk179 (fun _ _ _ => rfl) dX4_firstCrew_42 (fun x16 => ?_)
      refine g_iload (pc := 45) dX4_firstCrew_45 0 rfl ?_
      refine g_gS (fun hs => ?_)
      refine g_bRi (pc := 47) (c_VN cl8 hs (p_X8_mostManned hl x15 x16 x10 h3) y_X8_mostManned tw1245 dX4_firstCrew_47 rfl (st := []) rfl (Nat.le_of_ble_eq_true rfl) (Nat.le_of_ble_eq_true rfl) (Nat.le_of_ble_eq_true rfl)) (fun x17 h5 => ?_)
      refine g_iload (pc := 50) dX4_firstCrew_50 5 rfl ?_
      refine g_icmple (pc := 52) (tgt := 61) dX4_firstCrew_52 rfl ?_ ?_
      · refine g_lv [1, 2, 3, 4, 5, 6] rfl ?_
        exact hk61 x5 x6 h5
      · refine g_iload (pc := 55) dX4_firstCrew_55 0 rfl ?_
        refine g_istore_n (pc := 57) (lv' := [(3, .int x10), (6, .int x10), (0, .ref (e_z E + x1)), (1, .ref (e_z E + x2)), (2, .int x3), (4, .int x6), (5, .int x7)]) dX4_firstCrew_57 (Nat.le_of_ble_eq_true rfl) rfl ?_
        refine g_iincN (pc := 58) dX4_firstCrew_58 5 rfl ci_1 (Nat.le_of_ble_eq_true rfl) (fun x18 => ?_)
        refine g_lvr (lv' := [(4, .int x18), (3, .int x10), (6, .int x10), (0, .ref (e_z E + x1)), (1, .ref (e_z E + x2)), (2, .int x3), (5, .int x7)]) rfl ?_
        refine g_lv [3, 4, 5, 1, 0, 6] rfl ?_
        exact hk61 x10 x18 h5
  · refine g_lv [3] rfl ?_
    exact hk67 x5 h2
theorem p_X4_firstCrew {l : Launch} {E : aE} (hl : l.stackTraces = false) (x1 : Nat) (x2 : Nat) (x3 : Int32) (h0 : aH) : MO (fun (v : Int32) => .inl (some (.int v))) l E yX4_firstCrew (.code yX4_firstCrew cX4_firstCrew 7 (some .int)) 2 55 [.ref (e_z E + x1), .ref (e_z E + x2), .int x3] h0 (m_X4_firstCrew x1 x2 x3 h0) := g_met hl (by decide +kernel) (Nat.le_of_ble_eq_true rfl) (b_X4_firstCrew hl _ _ x1 x2 x3 h0)
theorem dX4_lookAtEngine_0 : decode cX4_lookAtEngine 0 = .ok (.aload_n 0, 1) := by decide +kernel
theorem dX4_lookAtEngine_1 : decode cX4_lookAtEngine 1 = .ok (.getfield 43, 3) := by decide +kernel
theorem dX4_lookAtEngine_4 : decode cX4_lookAtEngine 4 = .ok (.getfield 112, 3) := by decide +kernel
theorem dX4_lookAtEngine_7 : decode cX4_lookAtEngine 7 = .ok (.iload_n 2, 1) := by decide +kernel
theorem dX4_lookAtEngine_8 : decode cX4_lookAtEngine 8 = .ok (.aaload, 1) := by decide +kernel
theorem dX4_lookAtEngine_9 : decode cX4_lookAtEngine 9 = .ok (.astore_n 3, 1) := by decide +kernel
theorem dX4_lookAtEngine_10 : decode cX4_lookAtEngine 10 = .ok (.aload_n 0, 1) := by decide +kernel
theorem dX4_lookAtEngine_11 : decode cX4_lookAtEngine 11 = .ok (.getfield 21, 3) := by decide +kernel
theorem dX4_lookAtEngine_14 : decode cX4_lookAtEngine 14 = .ok (.iload_n 1, 1) := by decide +kernel
theorem dX4_lookAtEngine_15 : decode cX4_lookAtEngine 15 = .ok (.aload_n 0, 1) := by decide +kernel
theorem dX4_lookAtEngine_16 : decode cX4_lookAtEngine 16 = .ok (.getfield 43, 3) := by decide +kernel
theorem dX4_lookAtEngine_19 : decode cX4_lookAtEngine 19 = .ok (.aload_n 3, 1) := by decide +kernel
theorem dX4_lookAtEngine_20 : decode cX4_lookAtEngine 20 = .ok (.getfield 115, 3) := by decide +kernel
theorem dX4_lookAtEngine_23 : decode cX4_lookAtEngine 23 = .ok (.aload_n 0, 1) := by decide +kernel
theorem dX4_lookAtEngine_24 : decode cX4_lookAtEngine 24 = .ok (.getfield 52, 3) := by decide +kernel
theorem dX4_lookAtEngine_27 : decode cX4_lookAtEngine 27 = .ok (.invokevirtual 120, 3) := by decide +kernel
theorem dX4_lookAtEngine_30 : decode cX4_lookAtEngine 30 = .ok (.iastore, 1) := by decide +kernel
theorem dX4_lookAtEngine_31 : decode cX4_lookAtEngine 31 = .ok (.aload_n 0, 1) := by decide +kernel
theorem dX4_lookAtEngine_32 : decode cX4_lookAtEngine 32 = .ok (.getfield 24, 3) := by decide +kernel
theorem dX4_lookAtEngine_35 : decode cX4_lookAtEngine 35 = .ok (.iload_n 1, 1) := by decide +kernel
theorem dX4_lookAtEngine_36 : decode cX4_lookAtEngine 36 = .ok (.iconst 0, 1) := by decide +kernel
theorem dX4_lookAtEngine_37 : decode cX4_lookAtEngine 37 = .ok (.iastore, 1) := by decide +kernel
theorem dX4_lookAtEngine_38 : decode cX4_lookAtEngine 38 = .ok (.aload_n 0, 1) := by decide +kernel
theorem dX4_lookAtEngine_39 : decode cX4_lookAtEngine 39 = .ok (.getfield 27, 3) := by decide +kernel
theorem dX4_lookAtEngine_42 : decode cX4_lookAtEngine 42 = .ok (.iload_n 1, 1) := by decide +kernel
theorem dX4_lookAtEngine_43 : decode cX4_lookAtEngine 43 = .ok (.iconst 0, 1) := by decide +kernel
theorem dX4_lookAtEngine_44 : decode cX4_lookAtEngine 44 = .ok (.iastore, 1) := by decide +kernel
theorem dX4_lookAtEngine_45 : decode cX4_lookAtEngine 45 = .ok (.aload_n 0, 1) := by decide +kernel
theorem dX4_lookAtEngine_46 : decode cX4_lookAtEngine 46 = .ok (.getfield 33, 3) := by decide +kernel
theorem dX4_lookAtEngine_49 : decode cX4_lookAtEngine 49 = .ok (.getfield 124, 3) := by decide +kernel
theorem dX4_lookAtEngine_52 : decode cX4_lookAtEngine 52 = .ok (.iload_n 2, 1) := by decide +kernel
theorem dX4_lookAtEngine_53 : decode cX4_lookAtEngine 53 = .ok (.invokestatic 92, 3) := by decide +kernel
theorem dX4_lookAtEngine_56 : decode cX4_lookAtEngine 56 = .ok (.ifCond .ne 13, 3) := by decide +kernel
theorem dX4_lookAtEngine_59 : decode cX4_lookAtEngine 59 = .ok (.aload_n 0, 1) := by decide +kernel
theorem dX4_lookAtEngine_60 : decode cX4_lookAtEngine 60 = .ok (.getfield 18, 3) := by decide +kernel
theorem dX4_lookAtEngine_63 : decode cX4_lookAtEngine 63 = .ok (.iload_n 1, 1) := by decide +kernel
theorem dX4_lookAtEngine_64 : decode cX4_lookAtEngine 64 = .ok (.iconst 1, 1) := by decide +kernel
theorem dX4_lookAtEngine_65 : decode cX4_lookAtEngine 65 = .ok (.iastore, 1) := by decide +kernel
theorem dX4_lookAtEngine_66 : decode cX4_lookAtEngine 66 = .ok (.goto 103, 3) := by decide +kernel
theorem dX4_lookAtEngine_69 : decode cX4_lookAtEngine 69 = .ok (.aload_n 0, 1) := by decide +kernel
theorem dX4_lookAtEngine_70 : decode cX4_lookAtEngine 70 = .ok (.getfield 33, 3) := by decide +kernel
theorem dX4_lookAtEngine_73 : decode cX4_lookAtEngine 73 = .ok (.iload_n 2, 1) := by decide +kernel
theorem dX4_lookAtEngine_74 : decode cX4_lookAtEngine 74 = .ok (.invokevirtual 127, 3) := by decide +kernel
theorem dX4_lookAtEngine_77 : decode cX4_lookAtEngine 77 = .ok (.ifCond .eq 13, 3) := by decide +kernel
theorem dX4_lookAtEngine_80 : decode cX4_lookAtEngine 80 = .ok (.aload_n 0, 1) := by decide +kernel
theorem dX4_lookAtEngine_81 : decode cX4_lookAtEngine 81 = .ok (.getfield 18, 3) := by decide +kernel
theorem dX4_lookAtEngine_84 : decode cX4_lookAtEngine 84 = .ok (.iload_n 1, 1) := by decide +kernel
theorem dX4_lookAtEngine_85 : decode cX4_lookAtEngine 85 = .ok (.iconst 2, 1) := by decide +kernel
theorem dX4_lookAtEngine_86 : decode cX4_lookAtEngine 86 = .ok (.iastore, 1) := by decide +kernel
theorem dX4_lookAtEngine_87 : decode cX4_lookAtEngine 87 = .ok (.goto 82, 3) := by decide +kernel
theorem dX4_lookAtEngine_90 : decode cX4_lookAtEngine 90 = .ok (.aload_n 0, 1) := by decide +kernel
theorem dX4_lookAtEngine_91 : decode cX4_lookAtEngine 91 = .ok (.getfield 21, 3) := by decide +kernel
theorem dX4_lookAtEngine_94 : decode cX4_lookAtEngine 94 = .ok (.iload_n 1, 1) := by decide +kernel
theorem dX4_lookAtEngine_95 : decode cX4_lookAtEngine 95 = .ok (.iaload, 1) := by decide +kernel
theorem dX4_lookAtEngine_96 : decode cX4_lookAtEngine 96 = .ok (.aload_n 3, 1) := by decide +kernel
theorem dX4_lookAtEngine_97 : decode cX4_lookAtEngine 97 = .ok (.getfield 130, 3) := by decide +kernel
theorem dX4_lookAtEngine_100 : decode cX4_lookAtEngine 100 = .ok (.if_icmp .ge 13, 3) := by decide +kernel
theorem dX4_lookAtEngine_103 : decode cX4_lookAtEngine 103 = .ok (.aload_n 0, 1) := by decide +kernel
theorem dX4_lookAtEngine_104 : decode cX4_lookAtEngine 104 = .ok (.getfield 18, 3) := by decide +kernel
theorem dX4_lookAtEngine_107 : decode cX4_lookAtEngine 107 = .ok (.iload_n 1, 1) := by decide +kernel
theorem dX4_lookAtEngine_108 : decode cX4_lookAtEngine 108 = .ok (.iconst 3, 1) := by decide +kernel
theorem dX4_lookAtEngine_109 : decode cX4_lookAtEngine 109 = .ok (.iastore, 1) := by decide +kernel
theorem dX4_lookAtEngine_110 : decode cX4_lookAtEngine 110 = .ok (.goto 59, 3) := by decide +kernel
theorem dX4_lookAtEngine_113 : decode cX4_lookAtEngine 113 = .ok (.aload_n 0, 1) := by decide +kernel
theorem dX4_lookAtEngine_114 : decode cX4_lookAtEngine 114 = .ok (.getfield 18, 3) := by decide +kernel
theorem dX4_lookAtEngine_117 : decode cX4_lookAtEngine 117 = .ok (.iload_n 1, 1) := by decide +kernel
theorem dX4_lookAtEngine_118 : decode cX4_lookAtEngine 118 = .ok (.iconst 0, 1) := by decide +kernel
theorem dX4_lookAtEngine_119 : decode cX4_lookAtEngine 119 = .ok (.iastore, 1) := by decide +kernel
theorem dX4_lookAtEngine_120 : decode cX4_lookAtEngine 120 = .ok (.aload_n 0, 1) := by decide +kernel
theorem dX4_lookAtEngine_121 : decode cX4_lookAtEngine 121 = .ok (.getfield 27, 3) := by decide +kernel
theorem dX4_lookAtEngine_124 : decode cX4_lookAtEngine 124 = .ok (.iload_n 1, 1) := by decide +kernel
theorem dX4_lookAtEngine_125 : decode cX4_lookAtEngine 125 = .ok (.aload_n 0, 1) := by decide +kernel
theorem dX4_lookAtEngine_126 : decode cX4_lookAtEngine 126 = .ok (.aload_n 3, 1) := by decide +kernel
theorem dX4_lookAtEngine_127 : decode cX4_lookAtEngine 127 = .ok (.invokevirtual 133, 3) := by decide +kernel
theorem dX4_lookAtEngine_130 : decode cX4_lookAtEngine 130 = .ok (.iastore, 1) := by decide +kernel
theorem dX4_lookAtEngine_131 : decode cX4_lookAtEngine 131 = .ok (.aload_n 0, 1) := by decide +kernel
theorem dX4_lookAtEngine_132 : decode cX4_lookAtEngine 132 = .ok (.getfield 24, 3) := by decide +kernel
theorem dX4_lookAtEngine_135 : decode cX4_lookAtEngine 135 = .ok (.iload_n 1, 1) := by decide +kernel
theorem dX4_lookAtEngine_136 : decode cX4_lookAtEngine 136 = .ok (.aload_n 0, 1) := by decide +kernel
theorem dX4_lookAtEngine_137 : decode cX4_lookAtEngine 137 = .ok (.aload_n 3, 1) := by decide +kernel
theorem dX4_lookAtEngine_138 : decode cX4_lookAtEngine 138 = .ok (.aload_n 0, 1) := by decide +kernel
theorem dX4_lookAtEngine_139 : decode cX4_lookAtEngine 139 = .ok (.aload_n 0, 1) := by decide +kernel
theorem dX4_lookAtEngine_140 : decode cX4_lookAtEngine 140 = .ok (.getfield 27, 3) := by decide +kernel
theorem dX4_lookAtEngine_143 : decode cX4_lookAtEngine 143 = .ok (.iload_n 1, 1) := by decide +kernel
theorem dX4_lookAtEngine_144 : decode cX4_lookAtEngine 144 = .ok (.iaload, 1) := by decide +kernel
theorem dX4_lookAtEngine_145 : decode cX4_lookAtEngine 145 = .ok (.invokevirtual 137, 3) := by decide +kernel
theorem dX4_lookAtEngine_148 : decode cX4_lookAtEngine 148 = .ok (.invokevirtual 140, 3) := by decide +kernel
theorem dX4_lookAtEngine_151 : decode cX4_lookAtEngine 151 = .ok (.iastore, 1) := by decide +kernel
theorem dX4_lookAtEngine_152 : decode cX4_lookAtEngine 152 = .ok (.aload_n 0, 1) := by decide +kernel
theorem dX4_lookAtEngine_153 : decode cX4_lookAtEngine 153 = .ok (.dup, 1) := by decide +kernel
theorem dX4_lookAtEngine_154 : decode cX4_lookAtEngine 154 = .ok (.getfield 52, 3) := by decide +kernel
theorem dX4_lookAtEngine_157 : decode cX4_lookAtEngine 157 = .ok (.aload_n 0, 1) := by decide +kernel
theorem dX4_lookAtEngine_158 : decode cX4_lookAtEngine 158 = .ok (.getfield 24, 3) := by decide +kernel
theorem dX4_lookAtEngine_161 : decode cX4_lookAtEngine 161 = .ok (.iload_n 1, 1) := by decide +kernel
theorem dX4_lookAtEngine_162 : decode cX4_lookAtEngine 162 = .ok (.iaload, 1) := by decide +kernel
theorem dX4_lookAtEngine_163 : decode cX4_lookAtEngine 163 = .ok (.iconst (-1), 1) := by decide +kernel
theorem dX4_lookAtEngine_164 : decode cX4_lookAtEngine 164 = .ok (.ixor, 1) := by decide +kernel
theorem dX4_lookAtEngine_165 : decode cX4_lookAtEngine 165 = .ok (.iand, 1) := by decide +kernel
theorem dX4_lookAtEngine_166 : decode cX4_lookAtEngine 166 = .ok (.putfield 52, 3) := by decide +kernel
theorem dX4_lookAtEngine_169 : decode cX4_lookAtEngine 169 = .ok (.return_, 1) := by decide +kernel
abbrev M_X4_lookAtEngine : aM := (yX4_lookAtEngine.cls, cX4_lookAtEngine, 4, none, [], yX4_lookAtEngine.name == "<init>")
abbrev J_X4_lookAtEngine (l : Launch) (E : aE) (n0 m0 : Nat) := GG (fun (_ : Unit) => .inl none) l E M_X4_lookAtEngine 3 81 n0 m0
theorem b_X4_lookAtEngine {l : Launch} {E : aE} (hl : l.stackTraces = false) (n0 m0 : Nat) (x1 : Nat) (x2 : Int32) (x3 : Int32) (h0 : aH) : J_X4_lookAtEngine l E n0 m0 0 [(0, .ref (e_z E + x1)), (1, .int x2), (2, .int x3)] [] h0 (m_X4_lookAtEngine x1 x2 x3 h0) := by
  unfold m_X4_lookAtEngine
  refine g_aload_n (pc := 0) dX4_lookAtEngine_0 0 rfl ?_
  refine g_getr (pc := 1) cl4 (Nat.le_of_ble_eq_true rfl) fk422 (fun _ _ _ => rfl) dX4_lookAtEngine_1 (fun x4 => ?_)
  refine g_getr (pc := 4) cl8 (Nat.le_of_ble_eq_true rfl) fk265 (fun _ _ _ => rfl) dX4_lookAtEngine_4 (fun x5 => ?_)
  refine g_iload_n (pc := 7) dX4_lookAtEngine_7 2 rfl ?_
  refine g_aald (pc := 8) (t := 7) (Nat.le_of_ble_eq_true rfl) (Nat.le_of_ble_eq_true rfl) dX4_lookAtEngine_8 (fun x6 => ?_)
  refine g_astore_n (pc := 9) (lv' := [(3, .ref (e_z E + x6)), (0, .ref (e_z E + x1)), (1, .int x2), (2, .int x3)]) dX4_lookAtEngine_9 (Nat.le_of_ble_eq_true rfl) rfl ?_
  refine g_aload_n (pc := 10) dX4_lookAtEngine_10 1 rfl ?_
  refine g_getr (pc := 11) cl4 (Nat.le_of_ble_eq_true rfl) fk430 (fun _ _ _ => rfl) dX4_lookAtEngine_11 (fun x7 => ?_)
  refine g_iload_n (pc := 14) dX4_lookAtEngine_14 2 rfl ?_
  refine g_aload_n (pc := 15) dX4_lookAtEngine_15 1 rfl ?_
  refine g_getr (pc := 16) cl4 (Nat.le_of_ble_eq_true rfl) fk422 (fun _ _ _ => rfl) dX4_lookAtEngine_16 (fun x8 => ?_)
  refine g_aload_n (pc := 19) dX4_lookAtEngine_19 0 rfl ?_
  refine g_getr (pc := 20) cl1 (Nat.le_of_ble_eq_true rfl) fk179 (fun _ _ _ => rfl) dX4_lookAtEngine_20 (fun x9 => ?_)
  refine g_aload_n (pc := 23) dX4_lookAtEngine_23 1 rfl ?_
  refine g_geti (pc := 24) cl4 (Nat.le_of_ble_eq_true rfl) fk427 (fun _ _ _ => rfl) dX4_lookAtEngine_24 (fun x10 => ?_)
  refine g_gS (fun hs => ?_)
  refine g_bRi (pc := 27) (c_VN cl8 hs (p_X8_mostManned hl x8 x9 x10 h0) y_X8_mostManned tw1245 dX4_lookAtEngine_27 rfl (st := [.int x2, .ref (e_z E + x7)]) rfl (Nat.le_of_ble_eq_true rfl) (Nat.le_of_ble_eq_true rfl) (Nat.le_of_ble_eq_true rfl)) (fun x11 h1 => ?_)
  refine g_iast (pc := 30) dX4_lookAtEngine_30 (fun h2 => ?_)
  refine g_aload_n (pc := 31) dX4_lookAtEngine_31 1 rfl ?_
  refine g_getr (pc := 32) cl4 (Nat.le_of_ble_eq_true rfl) fk432 (fun _ _ _ => rfl) dX4_lookAtEngine_32 (fun x12 => ?_)
  refine g_iload_n (pc := 35) dX4_lookAtEngine_35 2 rfl ?_
  refine g_iconst (pc := 36) dX4_lookAtEngine_36 ci_0 ?_
  refine g_iast (pc := 37) dX4_lookAtEngine_37 (fun h3 => ?_)
  refine g_aload_n (pc := 38) dX4_lookAtEngine_38 1 rfl ?_
  refine g_getr (pc := 39) cl4 (Nat.le_of_ble_eq_true rfl) fk434 (fun _ _ _ => rfl) dX4_lookAtEngine_39 (fun x13 => ?_)
  refine g_iload_n (pc := 42) dX4_lookAtEngine_42 2 rfl ?_
  refine g_iconst (pc := 43) dX4_lookAtEngine_43 ci_0 ?_
  refine g_iast (pc := 44) dX4_lookAtEngine_44 (fun h4 => ?_)
  refine g_aload_n (pc := 45) dX4_lookAtEngine_45 1 rfl ?_
  refine g_getr (pc := 46) cl4 (Nat.le_of_ble_eq_true rfl) fk421 (fun _ _ _ => rfl) dX4_lookAtEngine_46 (fun x14 => ?_)
  refine g_geti (pc := 49) cl10 (Nat.le_of_ble_eq_true rfl) fk376 (fun _ _ _ => rfl) dX4_lookAtEngine_49 (fun x15 => ?_)
  refine g_iload_n (pc := 52) dX4_lookAtEngine_52 3 rfl ?_
  refine g_bRi (pc := 53) (c_SN (p_X11_has hl x15 x3 h4) y_X11_has tw1234 dX4_lookAtEngine_53 rfl (st := []) rfl (Nat.le_of_ble_eq_true rfl) (Nat.le_of_ble_eq_true rfl) (Nat.le_of_ble_eq_true rfl)) (fun x16 h5 => ?_)
  refine g_join (fun k => ∀ (h6 : aH), J_X4_lookAtEngine l E n0 m0 169 [] [] h6 (k h6)) (fun h6 => ?_) (fun k169 hk169 => ?_)
  · exact g_ret (pc := 169) rfl isRet_v dX4_lookAtEngine_169 rfl
  refine g_ifne (pc := 56) (tgt := 69) dX4_lookAtEngine_56 rfl ?_ ?_
  · refine g_aload_n (pc := 59) dX4_lookAtEngine_59 1 rfl ?_
    refine g_getr (pc := 60) cl4 (Nat.le_of_ble_eq_true rfl) fk428 (fun _ _ _ => rfl) dX4_lookAtEngine_60 (fun x17 => ?_)
    refine g_iload_n (pc := 63) dX4_lookAtEngine_63 2 rfl ?_
    refine g_iconst (pc := 64) dX4_lookAtEngine_64 ci_1 ?_
    refine g_iast (pc := 65) dX4_lookAtEngine_65 (fun h7 => ?_)
    refine g_goto (pc := 66) (tgt := 169) dX4_lookAtEngine_66 rfl ?_
    refine g_lv [] rfl ?_
    exact hk169 h7
  · refine g_aload_n (pc := 69) dX4_lookAtEngine_69 1 rfl ?_
    refine g_getr (pc := 70) cl4 (Nat.le_of_ble_eq_true rfl) fk421 (fun _ _ _ => rfl) dX4_lookAtEngine_70 (fun x18 => ?_)
    refine g_iload_n (pc := 73) dX4_lookAtEngine_73 3 rfl ?_
    refine g_gS (fun hs => ?_)
    refine g_bRi (pc := 74) (c_VN cl10 hs (p_X10_isEngineOut hl x18 x3 h5) y_X10_isEngineOut tw1256 dX4_lookAtEngine_74 rfl (st := []) rfl (Nat.le_of_ble_eq_true rfl) (Nat.le_of_ble_eq_true rfl) (Nat.le_of_ble_eq_true rfl)) (fun x19 h8 => ?_)
    refine g_ifeq (pc := 77) (tgt := 90) dX4_lookAtEngine_77 rfl ?_ ?_
    · refine g_aload_n (pc := 90) dX4_lookAtEngine_90 1 rfl ?_
      refine g_getr (pc := 91) cl4 (Nat.le_of_ble_eq_true rfl) fk430 (fun _ _ _ => rfl) dX4_lookAtEngine_91 (fun x20 => ?_)
      refine g_iload_n (pc := 94) dX4_lookAtEngine_94 2 rfl ?_
      refine g_iald (pc := 95) dX4_lookAtEngine_95 (fun x21 => ?_)
      refine g_aload_n (pc := 96) dX4_lookAtEngine_96 0 rfl ?_
      refine g_geti (pc := 97) cl1 (Nat.le_of_ble_eq_true rfl) fk173 (fun _ _ _ => rfl) dX4_lookAtEngine_97 (fun x22 => ?_)
      refine g_icmpge (pc := 100) (tgt := 113) dX4_lookAtEngine_100 rfl ?_ ?_
      · refine g_aload_n (pc := 103) dX4_lookAtEngine_103 1 rfl ?_
        refine g_getr (pc := 104) cl4 (Nat.le_of_ble_eq_true rfl) fk428 (fun _ _ _ => rfl) dX4_lookAtEngine_104 (fun x23 => ?_)
        refine g_iload_n (pc := 107) dX4_lookAtEngine_107 2 rfl ?_
        refine g_iconst (pc := 108) dX4_lookAtEngine_108 ci_3 ?_
        refine g_iast (pc := 109) dX4_lookAtEngine_109 (fun h9 => ?_)
        refine g_goto (pc := 110) (tgt := 169) dX4_lookAtEngine_110 rfl ?_
        refine g_lv [] rfl ?_
        exact hk169 h9
      · refine g_aload_n (pc := 113) dX4_lookAtEngine_113 1 rfl ?_
        refine g_getr (pc := 114) cl4 (Nat.le_of_ble_eq_true rfl) fk428 (fun _ _ _ => rfl) dX4_lookAtEngine_114 (fun x24 => ?_)
        refine g_iload_n (pc := 117) dX4_lookAtEngine_117 2 rfl ?_
        refine g_iconst (pc := 118) dX4_lookAtEngine_118 ci_0 ?_
        refine g_iast (pc := 119) dX4_lookAtEngine_119 (fun h10 => ?_)
        refine g_aload_n (pc := 120) dX4_lookAtEngine_120 1 rfl ?_
        refine g_getr (pc := 121) cl4 (Nat.le_of_ble_eq_true rfl) fk434 (fun _ _ _ => rfl) dX4_lookAtEngine_121 (fun x25 => ?_)
        refine g_iload_n (pc := 124) dX4_lookAtEngine_124 2 rfl ?_
        refine g_aload_n (pc := 125) dX4_lookAtEngine_125 1 rfl ?_
        refine g_aload_n (pc := 126) dX4_lookAtEngine_126 0 rfl ?_
        refine g_gS (fun hs => ?_)
        refine g_bRi (pc := 127) (c_V cl4 hs (p_X4_earliestDeparture hl x1 x6 h10) y_X4_earliestDeparture tw1257 dX4_lookAtEngine_127 rfl (st := [.int x2, .ref (e_z E + x25)]) rfl (Nat.le_of_ble_eq_true rfl) (Nat.le_of_ble_eq_true rfl) (Nat.le_of_ble_eq_true rfl)) (fun x26 h11 => ?_)
        refine g_iast (pc := 130) dX4_lookAtEngine_130 (fun h12 => ?_)
        refine g_aload_n (pc := 131) dX4_lookAtEngine_131 1 rfl ?_
        refine g_getr (pc := 132) cl4 (Nat.le_of_ble_eq_true rfl) fk432 (fun _ _ _ => rfl) dX4_lookAtEngine_132 (fun x27 => ?_)
        refine g_iload_n (pc := 135) dX4_lookAtEngine_135 2 rfl ?_
        refine g_aload_n (pc := 136) dX4_lookAtEngine_136 1 rfl ?_
        refine g_aload_n (pc := 137) dX4_lookAtEngine_137 0 rfl ?_
        refine g_aload_n (pc := 138) dX4_lookAtEngine_138 1 rfl ?_
        refine g_aload_n (pc := 139) dX4_lookAtEngine_139 1 rfl ?_
        refine g_getr (pc := 140) cl4 (Nat.le_of_ble_eq_true rfl) fk434 (fun _ _ _ => rfl) dX4_lookAtEngine_140 (fun x28 => ?_)
        refine g_iload_n (pc := 143) dX4_lookAtEngine_143 2 rfl ?_
        refine g_iald (pc := 144) dX4_lookAtEngine_144 (fun x29 => ?_)
        refine g_gS (fun hs => ?_)
        refine g_bRi (pc := 145) (c_V cl4 hs (p_X4_freeWithin hl x1 x29 h12) y_X4_freeWithin tw1261 dX4_lookAtEngine_145 rfl (st := [.ref (e_z E + x6), .ref (e_z E + x1), .int x2, .ref (e_z E + x27)]) rfl (Nat.le_of_ble_eq_true rfl) (Nat.le_of_ble_eq_true rfl) (Nat.le_of_ble_eq_true rfl)) (fun x30 h13 => ?_)
        refine g_gS (fun hs => ?_)
        refine g_bRi (pc := 148) (c_V cl4 hs (p_X4_firstCrew hl x1 x6 x30 h13) y_X4_firstCrew tw1265 dX4_lookAtEngine_148 rfl (st := [.int x2, .ref (e_z E + x27)]) rfl (Nat.le_of_ble_eq_true rfl) (Nat.le_of_ble_eq_true rfl) (Nat.le_of_ble_eq_true rfl)) (fun x31 h14 => ?_)
        refine g_iast (pc := 151) dX4_lookAtEngine_151 (fun h15 => ?_)
        refine g_aload_n (pc := 152) dX4_lookAtEngine_152 1 rfl ?_
        refine g_dup (pc := 153) rfl dX4_lookAtEngine_153 ?_
        refine g_geti (pc := 154) cl4 (Nat.le_of_ble_eq_true rfl) fk427 (fun _ _ _ => rfl) dX4_lookAtEngine_154 (fun x32 => ?_)
        refine g_aload_n (pc := 157) dX4_lookAtEngine_157 1 rfl ?_
        refine g_getr (pc := 158) cl4 (Nat.le_of_ble_eq_true rfl) fk432 (fun _ _ _ => rfl) dX4_lookAtEngine_158 (fun x33 => ?_)
        refine g_iload_n (pc := 161) dX4_lookAtEngine_161 2 rfl ?_
        refine g_iald (pc := 162) dX4_lookAtEngine_162 (fun x34 => ?_)
        refine g_iconst (pc := 163) dX4_lookAtEngine_163 ci_m1 ?_
        refine g_ixor (pc := 164) dX4_lookAtEngine_164 ?_
        refine g_iand (pc := 165) dX4_lookAtEngine_165 ?_
        refine g_puti (pc := 166) cl4 (Nat.le_of_ble_eq_true rfl) (Or.inl ⟨rfl, fk427⟩) (fun _ _ _ => rfl) (fun _ => ⟨rfl, rfl⟩) dX4_lookAtEngine_166 (fun h16 => ?_)
        refine g_lv [] rfl ?_
        exact hk169 h16
    · refine g_aload_n (pc := 80) dX4_lookAtEngine_80 1 rfl ?_
      refine g_getr (pc := 81) cl4 (Nat.le_of_ble_eq_true rfl) fk428 (fun _ _ _ => rfl) dX4_lookAtEngine_81 (fun x35 => ?_)
      refine g_iload_n (pc := 84) dX4_lookAtEngine_84 2 rfl ?_
      refine g_iconst (pc := 85) dX4_lookAtEngine_85 ci_2 ?_
      refine g_iast (pc := 86) dX4_lookAtEngine_86 (fun h17 => ?_)
      refine g_goto (pc := 87) (tgt := 169) dX4_lookAtEngine_87 rfl ?_
      refine g_lv [] rfl ?_
      exact hk169 h17
theorem p_X4_lookAtEngine {l : Launch} {E : aE} (hl : l.stackTraces = false) (x1 : Nat) (x2 : Int32) (x3 : Int32) (h0 : aH) : MO (fun (_ : Unit) => .inl none) l E yX4_lookAtEngine (.code yX4_lookAtEngine cX4_lookAtEngine 4 none) 3 81 [.ref (e_z E + x1), .int x2, .int x3] h0 (m_X4_lookAtEngine x1 x2 x3 h0) := g_met hl (by decide +kernel) (Nat.le_of_ble_eq_true rfl) (b_X4_lookAtEngine hl _ _ x1 x2 x3 h0)
theorem dX4_foresee_0 : decode cX4_foresee 0 = .ok (.aload_n 0, 1) := by decide +kernel
theorem dX4_foresee_1 : decode cX4_foresee 1 = .ok (.aload_n 1, 1) := by decide +kernel
theorem dX4_foresee_2 : decode cX4_foresee 2 = .ok (.putfield 33, 3) := by decide +kernel
theorem dX4_foresee_5 : decode cX4_foresee 5 = .ok (.aload_n 0, 1) := by decide +kernel
theorem dX4_foresee_6 : decode cX4_foresee 6 = .ok (.aload_n 1, 1) := by decide +kernel
theorem dX4_foresee_7 : decode cX4_foresee 7 = .ok (.getfield 37, 3) := by decide +kernel
theorem dX4_foresee_10 : decode cX4_foresee 10 = .ok (.putfield 43, 3) := by decide +kernel
theorem dX4_foresee_13 : decode cX4_foresee 13 = .ok (.aload_n 0, 1) := by decide +kernel
theorem dX4_foresee_14 : decode cX4_foresee 14 = .ok (.aload_n 2, 1) := by decide +kernel
theorem dX4_foresee_15 : decode cX4_foresee 15 = .ok (.invokevirtual 44, 3) := by decide +kernel
theorem dX4_foresee_18 : decode cX4_foresee 18 = .ok (.aload_n 0, 1) := by decide +kernel
theorem dX4_foresee_19 : decode cX4_foresee 19 = .ok (.aload_n 0, 1) := by decide +kernel
theorem dX4_foresee_20 : decode cX4_foresee 20 = .ok (.getfield 48, 3) := by decide +kernel
theorem dX4_foresee_23 : decode cX4_foresee 23 = .ok (.putfield 52, 3) := by decide +kernel
theorem dX4_foresee_26 : decode cX4_foresee 26 = .ok (.iconst 0, 1) := by decide +kernel
theorem dX4_foresee_27 : decode cX4_foresee 27 = .ok (.istore_n 3, 1) := by decide +kernel
theorem dX4_foresee_28 : decode cX4_foresee 28 = .ok (.iconst 0, 1) := by decide +kernel
theorem dX4_foresee_29 : decode cX4_foresee 29 = .ok (.istore 4, 2) := by decide +kernel
theorem dX4_foresee_31 : decode cX4_foresee 31 = .ok (.iload 4, 2) := by decide +kernel
theorem dX4_foresee_33 : decode cX4_foresee 33 = .ok (.aload_n 2, 1) := by decide +kernel
theorem dX4_foresee_34 : decode cX4_foresee 34 = .ok (.getfield 55, 3) := by decide +kernel
theorem dX4_foresee_37 : decode cX4_foresee 37 = .ok (.if_icmp .ge 35, 3) := by decide +kernel
theorem dX4_foresee_40 : decode cX4_foresee 40 = .ok (.aload_n 0, 1) := by decide +kernel
theorem dX4_foresee_41 : decode cX4_foresee 41 = .ok (.iload 4, 2) := by decide +kernel
theorem dX4_foresee_43 : decode cX4_foresee 43 = .ok (.aload_n 2, 1) := by decide +kernel
theorem dX4_foresee_44 : decode cX4_foresee 44 = .ok (.getfield 60, 3) := by decide +kernel
theorem dX4_foresee_47 : decode cX4_foresee 47 = .ok (.iload 4, 2) := by decide +kernel
theorem dX4_foresee_49 : decode cX4_foresee 49 = .ok (.iaload, 1) := by decide +kernel
theorem dX4_foresee_50 : decode cX4_foresee 50 = .ok (.invokevirtual 63, 3) := by decide +kernel
theorem dX4_foresee_53 : decode cX4_foresee 53 = .ok (.aload_n 0, 1) := by decide +kernel
theorem dX4_foresee_54 : decode cX4_foresee 54 = .ok (.getfield 18, 3) := by decide +kernel
theorem dX4_foresee_57 : decode cX4_foresee 57 = .ok (.iload 4, 2) := by decide +kernel
theorem dX4_foresee_59 : decode cX4_foresee 59 = .ok (.iaload, 1) := by decide +kernel
theorem dX4_foresee_60 : decode cX4_foresee 60 = .ok (.ifCond .ne 6, 3) := by decide +kernel
theorem dX4_foresee_63 : decode cX4_foresee 63 = .ok (.iinc 3 1, 3) := by decide +kernel
theorem dX4_foresee_66 : decode cX4_foresee 66 = .ok (.iinc 4 1, 3) := by decide +kernel
theorem dX4_foresee_69 : decode cX4_foresee 69 = .ok (.goto (-38), 3) := by decide +kernel
theorem dX4_foresee_72 : decode cX4_foresee 72 = .ok (.iload_n 3, 1) := by decide +kernel
theorem dX4_foresee_73 : decode cX4_foresee 73 = .ok (.aload_n 2, 1) := by decide +kernel
theorem dX4_foresee_74 : decode cX4_foresee 74 = .ok (.getfield 67, 3) := by decide +kernel
theorem dX4_foresee_77 : decode cX4_foresee 77 = .ok (.if_icmp .lt 7, 3) := by decide +kernel
theorem dX4_foresee_80 : decode cX4_foresee 80 = .ok (.iconst 1, 1) := by decide +kernel
theorem dX4_foresee_81 : decode cX4_foresee 81 = .ok (.goto 4, 3) := by decide +kernel
theorem dX4_foresee_84 : decode cX4_foresee 84 = .ok (.iconst 0, 1) := by decide +kernel
theorem dX4_foresee_85 : decode cX4_foresee 85 = .ok (.ireturn, 1) := by decide +kernel
abbrev M_X4_foresee : aM := (yX4_foresee.cls, cX4_foresee, 5, (some .boolean), [], yX4_foresee.name == "<init>")
abbrev J_X4_foresee (l : Launch) (E : aE) (n0 m0 : Nat) := GG (fun (v : Int32) => .inl (some (.int v))) l E M_X4_foresee 4 104 n0 m0
theorem b_X4_foresee {l : Launch} {E : aE} (hl : l.stackTraces = false) (n0 m0 : Nat) (x1 : Nat) (x2 : Nat) (x3 : Nat) (h0 : aH) : J_X4_foresee l E n0 m0 0 [(0, .ref (e_z E + x1)), (1, .ref (e_z E + x2)), (2, .ref (e_z E + x3))] [] h0 (m_X4_foresee x1 x2 x3 h0) := by
  unfold m_X4_foresee
  refine g_aload_n (pc := 0) dX4_foresee_0 0 rfl ?_
  refine g_aload_n (pc := 1) dX4_foresee_1 1 rfl ?_
  refine g_putr (pc := 2) cl4 (Nat.le_of_ble_eq_true rfl) (Or.inl ⟨rfl, fk421⟩) (fun _ _ _ => rfl) (fun _ => ⟨rfl, rfl⟩) dX4_foresee_2 (fun h1 => ?_)
  refine g_aload_n (pc := 5) dX4_foresee_5 0 rfl ?_
  refine g_aload_n (pc := 6) dX4_foresee_6 1 rfl ?_
  refine g_getr (pc := 7) cl10 (Nat.le_of_ble_eq_true rfl) fk347 (fun _ _ _ => rfl) dX4_foresee_7 (fun x4 => ?_)
  refine g_putr (pc := 10) cl4 (Nat.le_of_ble_eq_true rfl) (Or.inl ⟨rfl, fk422⟩) (fun _ _ _ => rfl) (fun _ => ⟨rfl, rfl⟩) dX4_foresee_10 (fun h2 => ?_)
  refine g_aload_n (pc := 13) dX4_foresee_13 0 rfl ?_
  refine g_aload_n (pc := 14) dX4_foresee_14 2 rfl ?_
  refine g_gS (fun hs => ?_)
  refine g_bRv (pc := 15) (c_V cl4 hs (p_X4_alert hl x1 x3 h2) y_X4_alert tw1228 dX4_foresee_15 rfl (st := []) rfl (Nat.le_of_ble_eq_true rfl) (Nat.le_of_ble_eq_true rfl) (Nat.le_of_ble_eq_true rfl)) (fun _ h3 => ?_)
  refine g_aload_n (pc := 18) dX4_foresee_18 0 rfl ?_
  refine g_aload_n (pc := 19) dX4_foresee_19 0 rfl ?_
  refine g_geti (pc := 20) cl4 (Nat.le_of_ble_eq_true rfl) fk426 (fun _ _ _ => rfl) dX4_foresee_20 (fun x5 => ?_)
  refine g_puti (pc := 23) cl4 (Nat.le_of_ble_eq_true rfl) (Or.inl ⟨rfl, fk427⟩) (fun _ _ _ => rfl) (fun _ => ⟨rfl, rfl⟩) dX4_foresee_23 (fun h4 => ?_)
  refine g_iconst (pc := 26) dX4_foresee_26 ci_0 ?_
  refine g_istore_n (pc := 27) (lv' := [(3, .int (0 : Int32)), (0, .ref (e_z E + x1)), (1, .ref (e_z E + x2)), (2, .ref (e_z E + x3))]) dX4_foresee_27 (Nat.le_of_ble_eq_true rfl) rfl ?_
  refine g_iconst (pc := 28) dX4_foresee_28 ci_0 ?_
  refine g_istore (pc := 29) (lv' := [(4, .int (0 : Int32)), (3, .int (0 : Int32)), (0, .ref (e_z E + x1)), (1, .ref (e_z E + x2)), (2, .ref (e_z E + x3))]) dX4_foresee_29 (Nat.le_of_ble_eq_true rfl) rfl ?_
  refine g_join (fun k => ∀ (x6 : Int32) (h5 : aH), J_X4_foresee l E n0 m0 72 [(2, .ref (e_z E + x3)), (3, .int x6)] [] h5 (k x6 h5)) (fun x6 h5 => ?_) (fun k72 hk72 => ?_)
  · refine g_iload_n (pc := 72) dX4_foresee_72 1 rfl ?_
    refine g_aload_n (pc := 73) dX4_foresee_73 0 rfl ?_
    refine g_geti (pc := 74) cl3 (Nat.le_of_ble_eq_true rfl) fk203 (fun _ _ _ => rfl) dX4_foresee_74 (fun x7 => ?_)
    refine g_join (fun k => ∀ (x8 : Int32) (h6 : aH), J_X4_foresee l E n0 m0 85 [] [.int x8] h6 (k x8 h6)) (fun x8 h6 => ?_) (fun k85 hk85 => ?_)
    · refine g_zO (fun hz => ?_)
      exact g_ret (pc := 85) rfl (isRet_z hz) dX4_foresee_85 rfl
    refine g_icmplt (pc := 77) (tgt := 84) dX4_foresee_77 rfl ?_ ?_
    · refine g_iconst (pc := 84) dX4_foresee_84 ci_0 ?_
      refine g_lv [] rfl ?_
      exact hk85 (0 : Int32) h5
    · refine g_iconst (pc := 80) dX4_foresee_80 ci_1 ?_
      refine g_goto (pc := 81) (tgt := 85) dX4_foresee_81 rfl ?_
      refine g_lv [] rfl ?_
      exact hk85 (1 : Int32) h5
  refine g_lv [2, 4, 1, 0] rfl ?_
  refine g_loop2 (F := (m_X4_foresee_L31 x1 x3 k72)) (fun x10 x11 => [(0, .ref (e_z E + x1)), (2, .ref (e_z E + x3)), (3, .int x10), (4, .int x11)]) (fun r31 hr31 x10 x11 h7 => ?_) _ _ _ _
  unfold m_X4_foresee_L31
  refine g_iload (pc := 31) dX4_foresee_31 3 rfl ?_
  refine g_aload_n (pc := 33) dX4_foresee_33 1 rfl ?_
  refine g_geti (pc := 34) cl3 (Nat.le_of_ble_eq_true rfl) fk210 (fun _ _ _ => rfl) dX4_foresee_34 (fun x12 => ?_)
  refine g_icmpge (pc := 37) (tgt := 72) dX4_foresee_37 rfl ?_ ?_
  · refine g_aload_n (pc := 40) dX4_foresee_40 0 rfl ?_
    refine g_iload (pc := 41) dX4_foresee_41 3 rfl ?_
    refine g_aload_n (pc := 43) dX4_foresee_43 1 rfl ?_
    refine g_getr (pc := 44) cl3 (Nat.le_of_ble_eq_true rfl) fk214 (fun _ _ _ => rfl) dX4_foresee_44 (fun x13 => ?_)
    refine g_iload (pc := 47) dX4_foresee_47 3 rfl ?_
    refine g_iald (pc := 49) dX4_foresee_49 (fun x14 => ?_)
    refine g_gS (fun hs => ?_)
    refine g_bRv (pc := 50) (c_V cl4 hs (p_X4_lookAtEngine hl x1 x11 x14 h7) y_X4_lookAtEngine tw1241 dX4_foresee_50 rfl (st := []) rfl (Nat.le_of_ble_eq_true rfl) (Nat.le_of_ble_eq_true rfl) (Nat.le_of_ble_eq_true rfl)) (fun _ h8 => ?_)
    refine g_aload_n (pc := 53) dX4_foresee_53 0 rfl ?_
    refine g_getr (pc := 54) cl4 (Nat.le_of_ble_eq_true rfl) fk428 (fun _ _ _ => rfl) dX4_foresee_54 (fun x15 => ?_)
    refine g_iload (pc := 57) dX4_foresee_57 3 rfl ?_
    refine g_iald (pc := 59) dX4_foresee_59 (fun x16 => ?_)
    refine g_join (fun k => ∀ (x17 : Int32) (h9 : aH), J_X4_foresee l E n0 m0 66 [(0, .ref (e_z E + x1)), (2, .ref (e_z E + x3)), (3, .int x17), (4, .int x11)] [] h9 (k x17 h9)) (fun x17 h9 => ?_) (fun k66 hk66 => ?_)
    · refine g_iincN (pc := 66) dX4_foresee_66 3 rfl ci_1 (Nat.le_of_ble_eq_true rfl) (fun x18 => ?_)
      refine g_lvr (lv' := [(4, .int x18), (0, .ref (e_z E + x1)), (2, .ref (e_z E + x3)), (3, .int x17)]) rfl ?_
      refine g_goto (pc := 69) (tgt := 31) dX4_foresee_69 rfl ?_
      refine g_lv [1, 2, 3, 0] rfl ?_
      exact hr31 x17 x18 h9
    refine g_ifne (pc := 60) (tgt := 66) dX4_foresee_60 rfl ?_ ?_
    · refine g_iincN (pc := 63) dX4_foresee_63 2 rfl ci_1 (Nat.le_of_ble_eq_true rfl) (fun x19 => ?_)
      refine g_lvr (lv' := [(3, .int x19), (0, .ref (e_z E + x1)), (2, .ref (e_z E + x3)), (4, .int x11)]) rfl ?_
      refine g_lv [1, 2, 0, 3] rfl ?_
      exact hk66 x19 h8
    · exact hk66 x10 h8
  · refine g_lv [1, 2] rfl ?_
    exact hk72 x10 h7
theorem p_X4_foresee {l : Launch} {E : aE} (hl : l.stackTraces = false) (x1 : Nat) (x2 : Nat) (x3 : Nat) (h0 : aH) : MO (fun (v : Int32) => .inl (some (.int v))) l E yX4_foresee (.code yX4_foresee cX4_foresee 5 (some .boolean)) 4 104 [.ref (e_z E + x1), .ref (e_z E + x2), .ref (e_z E + x3)] h0 (m_X4_foresee x1 x2 x3 h0) := g_met hl (by decide +kernel) (Nat.le_of_ble_eq_true rfl) (b_X4_foresee hl _ _ x1 x2 x3 h0)
theorem dX4_lowestFor_0 : decode cX4_lowestFor 0 = .ok (.aload_n 0, 1) := by decide +kernel
theorem dX4_lowestFor_1 : decode cX4_lowestFor 1 = .ok (.getfield 30, 3) := by decide +kernel
theorem dX4_lowestFor_4 : decode cX4_lowestFor 4 = .ok (.bipush 31, 2) := by decide +kernel
theorem dX4_lowestFor_6 : decode cX4_lowestFor 6 = .ok (.iaload, 1) := by decide +kernel
theorem dX4_lowestFor_7 : decode cX4_lowestFor 7 = .ok (.istore_n 3, 1) := by decide +kernel
theorem dX4_lowestFor_8 : decode cX4_lowestFor 8 = .ok (.iconst 0, 1) := by decide +kernel
theorem dX4_lowestFor_9 : decode cX4_lowestFor 9 = .ok (.istore 4, 2) := by decide +kernel
theorem dX4_lowestFor_11 : decode cX4_lowestFor 11 = .ok (.iload 4, 2) := by decide +kernel
theorem dX4_lowestFor_13 : decode cX4_lowestFor 13 = .ok (.aload_n 0, 1) := by decide +kernel
theorem dX4_lowestFor_14 : decode cX4_lowestFor 14 = .ok (.getfield 43, 3) := by decide +kernel
theorem dX4_lowestFor_17 : decode cX4_lowestFor 17 = .ok (.getfield 83, 3) := by decide +kernel
theorem dX4_lowestFor_20 : decode cX4_lowestFor 20 = .ok (.if_icmp .ge 54, 3) := by decide +kernel
theorem dX4_lowestFor_23 : decode cX4_lowestFor 23 = .ok (.iload_n 2, 1) := by decide +kernel
theorem dX4_lowestFor_24 : decode cX4_lowestFor 24 = .ok (.aload_n 0, 1) := by decide +kernel
theorem dX4_lowestFor_25 : decode cX4_lowestFor 25 = .ok (.getfield 43, 3) := by decide +kernel
theorem dX4_lowestFor_28 : decode cX4_lowestFor 28 = .ok (.getfield 154, 3) := by decide +kernel
theorem dX4_lowestFor_31 : decode cX4_lowestFor 31 = .ok (.iload_n 1, 1) := by decide +kernel
theorem dX4_lowestFor_32 : decode cX4_lowestFor 32 = .ok (.iaload, 1) := by decide +kernel
theorem dX4_lowestFor_33 : decode cX4_lowestFor 33 = .ok (.iand, 1) := by decide +kernel
theorem dX4_lowestFor_34 : decode cX4_lowestFor 34 = .ok (.iload 4, 2) := by decide +kernel
theorem dX4_lowestFor_36 : decode cX4_lowestFor 36 = .ok (.invokestatic 92, 3) := by decide +kernel
theorem dX4_lowestFor_39 : decode cX4_lowestFor 39 = .ok (.ifCond .eq 29, 3) := by decide +kernel
theorem dX4_lowestFor_42 : decode cX4_lowestFor 42 = .ok (.aload_n 0, 1) := by decide +kernel
theorem dX4_lowestFor_43 : decode cX4_lowestFor 43 = .ok (.getfield 43, 3) := by decide +kernel
theorem dX4_lowestFor_46 : decode cX4_lowestFor 46 = .ok (.aload_n 0, 1) := by decide +kernel
theorem dX4_lowestFor_47 : decode cX4_lowestFor 47 = .ok (.getfield 30, 3) := by decide +kernel
theorem dX4_lowestFor_50 : decode cX4_lowestFor 50 = .ok (.iload_n 2, 1) := by decide +kernel
theorem dX4_lowestFor_51 : decode cX4_lowestFor 51 = .ok (.iconst 1, 1) := by decide +kernel
theorem dX4_lowestFor_52 : decode cX4_lowestFor 52 = .ok (.iload 4, 2) := by decide +kernel
theorem dX4_lowestFor_54 : decode cX4_lowestFor 54 = .ok (.ishl, 1) := by decide +kernel
theorem dX4_lowestFor_55 : decode cX4_lowestFor 55 = .ok (.iconst (-1), 1) := by decide +kernel
theorem dX4_lowestFor_56 : decode cX4_lowestFor 56 = .ok (.ixor, 1) := by decide +kernel
theorem dX4_lowestFor_57 : decode cX4_lowestFor 57 = .ok (.iand, 1) := by decide +kernel
theorem dX4_lowestFor_58 : decode cX4_lowestFor 58 = .ok (.invokevirtual 120, 3) := by decide +kernel
theorem dX4_lowestFor_61 : decode cX4_lowestFor 61 = .ok (.iload_n 3, 1) := by decide +kernel
theorem dX4_lowestFor_62 : decode cX4_lowestFor 62 = .ok (.if_icmp .ne 6, 3) := by decide +kernel
theorem dX4_lowestFor_65 : decode cX4_lowestFor 65 = .ok (.iload 4, 2) := by decide +kernel
theorem dX4_lowestFor_67 : decode cX4_lowestFor 67 = .ok (.ireturn, 1) := by decide +kernel
theorem dX4_lowestFor_68 : decode cX4_lowestFor 68 = .ok (.iinc 4 1, 3) := by decide +kernel
theorem dX4_lowestFor_71 : decode cX4_lowestFor 71 = .ok (.goto (-60), 3) := by decide +kernel
theorem dX4_lowestFor_74 : decode cX4_lowestFor 74 = .ok (.iconst (-1), 1) := by decide +kernel
theorem dX4_lowestFor_75 : decode cX4_lowestFor 75 = .ok (.ireturn, 1) := by decide +kernel
abbrev M_X4_lowestFor : aM := (yX4_lowestFor.cls, cX4_lowestFor, 5, (some .int), [], yX4_lowestFor.name == "<init>")
abbrev J_X4_lowestFor (l : Launch) (E : aE) (n0 m0 : Nat) := GG (fun (v : Int32) => .inl (some (.int v))) l E M_X4_lowestFor 2 55 n0 m0
theorem b_X4_lowestFor {l : Launch} {E : aE} (hl : l.stackTraces = false) (n0 m0 : Nat) (x1 : Nat) (x2 : Int32) (x3 : Int32) (h0 : aH) : J_X4_lowestFor l E n0 m0 0 [(0, .ref (e_z E + x1)), (1, .int x2), (2, .int x3)] [] h0 (m_X4_lowestFor x1 x2 x3 h0) := by
  unfold m_X4_lowestFor
  refine g_aload_n (pc := 0) dX4_lowestFor_0 0 rfl ?_
  refine g_getr (pc := 1) cl4 (Nat.le_of_ble_eq_true rfl) fk436 (fun _ _ _ => rfl) dX4_lowestFor_1 (fun x4 => ?_)
  refine g_bipush (pc := 4) dX4_lowestFor_4 cb_31 ?_
  refine g_iald (pc := 6) dX4_lowestFor_6 (fun x5 => ?_)
  refine g_istore_n (pc := 7) (lv' := [(3, .int x5), (0, .ref (e_z E + x1)), (1, .int x2), (2, .int x3)]) dX4_lowestFor_7 (Nat.le_of_ble_eq_true rfl) rfl ?_
  refine g_iconst (pc := 8) dX4_lowestFor_8 ci_0 ?_
  refine g_istore (pc := 9) (lv' := [(4, .int (0 : Int32)), (3, .int x5), (0, .ref (e_z E + x1)), (1, .int x2), (2, .int x3)]) dX4_lowestFor_9 (Nat.le_of_ble_eq_true rfl) rfl ?_
  refine g_join (fun k => ∀ (h1 : aH), J_X4_lowestFor l E n0 m0 74 [] [] h1 (k h1)) (fun h1 => ?_) (fun k74 hk74 => ?_)
  · refine g_iconst (pc := 74) dX4_lowestFor_74 ci_m1 ?_
    exact g_ret (pc := 75) rfl (isRet_i _) dX4_lowestFor_75 rfl
  refine g_join (fun k => ∀ (x6 : Int32) (h2 : aH), J_X4_lowestFor l E n0 m0 65 [(4, .int x6)] [] h2 (k x6 h2)) (fun x6 h2 => ?_) (fun k65 hk65 => ?_)
  · refine g_iload (pc := 65) dX4_lowestFor_65 0 rfl ?_
    exact g_ret (pc := 67) rfl (isRet_i _) dX4_lowestFor_67 rfl
  refine g_lv [2, 3, 4, 1, 0] rfl ?_
  refine g_loop1 (F := (m_X4_lowestFor_L11 x1 x2 x3 x5 k74 k65)) (fun x7 => [(0, .ref (e_z E + x1)), (1, .int x2), (2, .int x3), (3, .int x5), (4, .int x7)]) (fun r11 hr11 x7 h3 => ?_) _ _ _
  unfold m_X4_lowestFor_L11
  refine g_iload (pc := 11) dX4_lowestFor_11 4 rfl ?_
  refine g_aload_n (pc := 13) dX4_lowestFor_13 0 rfl ?_
  refine g_getr (pc := 14) cl4 (Nat.le_of_ble_eq_true rfl) fk422 (fun _ _ _ => rfl) dX4_lowestFor_14 (fun x8 => ?_)
  refine g_geti (pc := 17) cl8 (Nat.le_of_ble_eq_true rfl) fk239 (fun _ _ _ => rfl) dX4_lowestFor_17 (fun x9 => ?_)
  refine g_icmpge (pc := 20) (tgt := 74) dX4_lowestFor_20 rfl ?_ ?_
  · refine g_iload_n (pc := 23) dX4_lowestFor_23 2 rfl ?_
    refine g_aload_n (pc := 24) dX4_lowestFor_24 0 rfl ?_
    refine g_getr (pc := 25) cl4 (Nat.le_of_ble_eq_true rfl) fk422 (fun _ _ _ => rfl) dX4_lowestFor_25 (fun x10 => ?_)
    refine g_getr (pc := 28) cl8 (Nat.le_of_ble_eq_true rfl) fk275 (fun _ _ _ => rfl) dX4_lowestFor_28 (fun x11 => ?_)
    refine g_iload_n (pc := 31) dX4_lowestFor_31 1 rfl ?_
    refine g_iald (pc := 32) dX4_lowestFor_32 (fun x12 => ?_)
    refine g_iand (pc := 33) dX4_lowestFor_33 ?_
    refine g_iload (pc := 34) dX4_lowestFor_34 4 rfl ?_
    refine g_bRi (pc := 36) (c_SN (p_X11_has hl (x3 &&& x12) x7 h3) y_X11_has tw1234 dX4_lowestFor_36 rfl (st := []) rfl (Nat.le_of_ble_eq_true rfl) (Nat.le_of_ble_eq_true rfl) (Nat.le_of_ble_eq_true rfl)) (fun x13 h4 => ?_)
    refine g_join (fun k => ∀ (h5 : aH), J_X4_lowestFor l E n0 m0 68 [(0, .ref (e_z E + x1)), (1, .int x2), (2, .int x3), (3, .int x5), (4, .int x7)] [] h5 (k h5)) (fun h5 => ?_) (fun k68 hk68 => ?_)
    · refine g_iincN (pc := 68) dX4_lowestFor_68 4 rfl ci_1 (Nat.le_of_ble_eq_true rfl) (fun x14 => ?_)
      refine g_lvr (lv' := [(4, .int x14), (0, .ref (e_z E + x1)), (1, .int x2), (2, .int x3), (3, .int x5)]) rfl ?_
      refine g_goto (pc := 71) (tgt := 11) dX4_lowestFor_71 rfl ?_
      refine g_lv [1, 2, 3, 4, 0] rfl ?_
      exact hr11 x14 h5
    refine g_ifeq (pc := 39) (tgt := 68) dX4_lowestFor_39 rfl ?_ ?_
    · exact hk68 h4
    · refine g_aload_n (pc := 42) dX4_lowestFor_42 0 rfl ?_
      refine g_getr (pc := 43) cl4 (Nat.le_of_ble_eq_true rfl) fk422 (fun _ _ _ => rfl) dX4_lowestFor_43 (fun x15 => ?_)
      refine g_aload_n (pc := 46) dX4_lowestFor_46 0 rfl ?_
      refine g_getr (pc := 47) cl4 (Nat.le_of_ble_eq_true rfl) fk436 (fun _ _ _ => rfl) dX4_lowestFor_47 (fun x16 => ?_)
      refine g_iload_n (pc := 50) dX4_lowestFor_50 2 rfl ?_
      refine g_iconst (pc := 51) dX4_lowestFor_51 ci_1 ?_
      refine g_iload (pc := 52) dX4_lowestFor_52 4 rfl ?_
      refine g_ishl (pc := 54) dX4_lowestFor_54 ?_
      refine g_iconst (pc := 55) dX4_lowestFor_55 ci_m1 ?_
      refine g_ixor (pc := 56) dX4_lowestFor_56 ?_
      refine g_iand (pc := 57) dX4_lowestFor_57 ?_
      refine g_gS (fun hs => ?_)
      refine g_bRi (pc := 58) (c_VN cl8 hs (p_X8_mostManned hl x15 x16 (x3 &&& (((1 : Int32) <<< (x7 &&& 31)) ^^^ (-1 : Int32))) h4) y_X8_mostManned tw1245 dX4_lowestFor_58 rfl (st := []) rfl (Nat.le_of_ble_eq_true rfl) (Nat.le_of_ble_eq_true rfl) (Nat.le_of_ble_eq_true rfl)) (fun x17 h6 => ?_)
      refine g_iload_n (pc := 61) dX4_lowestFor_61 3 rfl ?_
      refine g_icmpne (pc := 62) (tgt := 68) dX4_lowestFor_62 rfl ?_ ?_
      · refine g_lv [4] rfl ?_
        exact hk65 x7 h6
      · exact hk68 h6
  · refine g_lv [] rfl ?_
    exact hk74 h3
theorem p_X4_lowestFor {l : Launch} {E : aE} (hl : l.stackTraces = false) (x1 : Nat) (x2 : Int32) (x3 : Int32) (h0 : aH) : MO (fun (v : Int32) => .inl (some (.int v))) l E yX4_lowestFor (.code yX4_lowestFor cX4_lowestFor 5 (some .int)) 2 55 [.ref (e_z E + x1), .int x2, .int x3] h0 (m_X4_lowestFor x1 x2 x3 h0) := g_met hl (by decide +kernel) (Nat.le_of_ble_eq_true rfl) (b_X4_lowestFor hl _ _ x1 x2 x3 h0)
theorem dX4_personAt_0 : decode cX4_personAt 0 = .ok (.aload_n 1, 1) := by decide +kernel
theorem dX4_personAt_1 : decode cX4_personAt 1 = .ok (.getfield 115, 3) := by decide +kernel
theorem dX4_personAt_4 : decode cX4_personAt 4 = .ok (.aload_n 0, 1) := by decide +kernel
theorem dX4_personAt_5 : decode cX4_personAt 5 = .ok (.getfield 30, 3) := by decide +kernel
theorem dX4_personAt_8 : decode cX4_personAt 8 = .ok (.invokestatic 144, 3) := by decide +kernel
theorem dX4_personAt_11 : decode cX4_personAt 11 = .ok (.iload_n 2, 1) := by decide +kernel
theorem dX4_personAt_12 : decode cX4_personAt 12 = .ok (.istore 4, 2) := by decide +kernel
theorem dX4_personAt_14 : decode cX4_personAt 14 = .ok (.iconst (-1), 1) := by decide +kernel
theorem dX4_personAt_15 : decode cX4_personAt 15 = .ok (.istore 5, 2) := by decide +kernel
theorem dX4_personAt_17 : decode cX4_personAt 17 = .ok (.iconst 0, 1) := by decide +kernel
theorem dX4_personAt_18 : decode cX4_personAt 18 = .ok (.istore 6, 2) := by decide +kernel
theorem dX4_personAt_20 : decode cX4_personAt 20 = .ok (.iload 6, 2) := by decide +kernel
theorem dX4_personAt_22 : decode cX4_personAt 22 = .ok (.iload_n 3, 1) := by decide +kernel
theorem dX4_personAt_23 : decode cX4_personAt 23 = .ok (.if_icmp .gt 93, 3) := by decide +kernel
theorem dX4_personAt_26 : decode cX4_personAt 26 = .ok (.iload 6, 2) := by decide +kernel
theorem dX4_personAt_28 : decode cX4_personAt 28 = .ok (.aload_n 1, 1) := by decide +kernel
theorem dX4_personAt_29 : decode cX4_personAt 29 = .ok (.getfield 130, 3) := by decide +kernel
theorem dX4_personAt_32 : decode cX4_personAt 32 = .ok (.if_icmp .ge 84, 3) := by decide +kernel
theorem dX4_personAt_35 : decode cX4_personAt 35 = .ok (.aload_n 1, 1) := by decide +kernel
theorem dX4_personAt_36 : decode cX4_personAt 36 = .ok (.getfield 148, 3) := by decide +kernel
theorem dX4_personAt_39 : decode cX4_personAt 39 = .ok (.iload 6, 2) := by decide +kernel
theorem dX4_personAt_41 : decode cX4_personAt 41 = .ok (.iaload, 1) := by decide +kernel
theorem dX4_personAt_42 : decode cX4_personAt 42 = .ok (.istore 7, 2) := by decide +kernel
theorem dX4_personAt_44 : decode cX4_personAt 44 = .ok (.iconst 0, 1) := by decide +kernel
theorem dX4_personAt_45 : decode cX4_personAt 45 = .ok (.istore 8, 2) := by decide +kernel
theorem dX4_personAt_47 : decode cX4_personAt 47 = .ok (.iload 8, 2) := by decide +kernel
theorem dX4_personAt_49 : decode cX4_personAt 49 = .ok (.bipush 32, 2) := by decide +kernel
theorem dX4_personAt_51 : decode cX4_personAt 51 = .ok (.if_icmp .ge 32, 3) := by decide +kernel
theorem dX4_personAt_54 : decode cX4_personAt 54 = .ok (.aload_n 0, 1) := by decide +kernel
theorem dX4_personAt_55 : decode cX4_personAt 55 = .ok (.getfield 30, 3) := by decide +kernel
theorem dX4_personAt_58 : decode cX4_personAt 58 = .ok (.iload 8, 2) := by decide +kernel
theorem dX4_personAt_60 : decode cX4_personAt 60 = .ok (.dup2, 1) := by decide +kernel
theorem dX4_personAt_61 : decode cX4_personAt 61 = .ok (.iaload, 1) := by decide +kernel
theorem dX4_personAt_62 : decode cX4_personAt 62 = .ok (.iload 8, 2) := by decide +kernel
theorem dX4_personAt_64 : decode cX4_personAt 64 = .ok (.iload 7, 2) := by decide +kernel
theorem dX4_personAt_66 : decode cX4_personAt 66 = .ok (.iand, 1) := by decide +kernel
theorem dX4_personAt_67 : decode cX4_personAt 67 = .ok (.ifCond .eq 7, 3) := by decide +kernel
theorem dX4_personAt_70 : decode cX4_personAt 70 = .ok (.iconst 1, 1) := by decide +kernel
theorem dX4_personAt_71 : decode cX4_personAt 71 = .ok (.goto 4, 3) := by decide +kernel
theorem dX4_personAt_74 : decode cX4_personAt 74 = .ok (.iconst 0, 1) := by decide +kernel
theorem dX4_personAt_75 : decode cX4_personAt 75 = .ok (.isub, 1) := by decide +kernel
theorem dX4_personAt_76 : decode cX4_personAt 76 = .ok (.iastore, 1) := by decide +kernel
theorem dX4_personAt_77 : decode cX4_personAt 77 = .ok (.iinc 8 1, 3) := by decide +kernel
theorem dX4_personAt_80 : decode cX4_personAt 80 = .ok (.goto (-33), 3) := by decide +kernel
theorem dX4_personAt_83 : decode cX4_personAt 83 = .ok (.aload_n 0, 1) := by decide +kernel
theorem dX4_personAt_84 : decode cX4_personAt 84 = .ok (.iload 7, 2) := by decide +kernel
theorem dX4_personAt_86 : decode cX4_personAt 86 = .ok (.iload 4, 2) := by decide +kernel
theorem dX4_personAt_88 : decode cX4_personAt 88 = .ok (.invokevirtual 151, 3) := by decide +kernel
theorem dX4_personAt_91 : decode cX4_personAt 91 = .ok (.istore 5, 2) := by decide +kernel
theorem dX4_personAt_93 : decode cX4_personAt 93 = .ok (.iload 5, 2) := by decide +kernel
theorem dX4_personAt_95 : decode cX4_personAt 95 = .ok (.iconst (-1), 1) := by decide +kernel
theorem dX4_personAt_96 : decode cX4_personAt 96 = .ok (.if_icmp .eq 14, 3) := by decide +kernel
theorem dX4_personAt_99 : decode cX4_personAt 99 = .ok (.iload 4, 2) := by decide +kernel
theorem dX4_personAt_101 : decode cX4_personAt 101 = .ok (.iconst 1, 1) := by decide +kernel
theorem dX4_personAt_102 : decode cX4_personAt 102 = .ok (.iload 5, 2) := by decide +kernel
theorem dX4_personAt_104 : decode cX4_personAt 104 = .ok (.ishl, 1) := by decide +kernel
theorem dX4_personAt_105 : decode cX4_personAt 105 = .ok (.iconst (-1), 1) := by decide +kernel
theorem dX4_personAt_106 : decode cX4_personAt 106 = .ok (.ixor, 1) := by decide +kernel
theorem dX4_personAt_107 : decode cX4_personAt 107 = .ok (.iand, 1) := by decide +kernel
theorem dX4_personAt_108 : decode cX4_personAt 108 = .ok (.istore 4, 2) := by decide +kernel
theorem dX4_personAt_110 : decode cX4_personAt 110 = .ok (.iinc 6 1, 3) := by decide +kernel
theorem dX4_personAt_113 : decode cX4_personAt 113 = .ok (.goto (-93), 3) := by decide +kernel
theorem dX4_personAt_116 : decode cX4_personAt 116 = .ok (.iload 5, 2) := by decide +kernel
theorem dX4_personAt_118 : decode cX4_personAt 118 = .ok (.ireturn, 1) := by decide +kernel
abbrev M_X4_personAt : aM := (yX4_personAt.cls, cX4_personAt, 9, (some .int), [], yX4_personAt.name == "<init>")
abbrev J_X4_personAt (l : Launch) (E : aE) (n0 m0 : Nat) := GG (fun (v : Int32) => .inl (some (.int v))) l E M_X4_personAt 3 79 n0 m0
theorem b_X4_personAt {l : Launch} {E : aE} (hl : l.stackTraces = false) (n0 m0 : Nat) (x1 : Nat) (x2 : Nat) (x3 : Int32) (x4 : Int32) (h0 : aH) : J_X4_personAt l E n0 m0 0 [(0, .ref (e_z E + x1)), (1, .ref (e_z E + x2)), (2, .int x3), (3, .int x4)] [] h0 (m_X4_personAt x1 x2 x3 x4 h0) := by
  unfold m_X4_personAt
  refine g_aload_n (pc := 0) dX4_personAt_0 1 rfl ?_
  refine g_getr (pc := 1) cl1 (Nat.le_of_ble_eq_true rfl) fk179 (fun _ _ _ => rfl) dX4_personAt_1 (fun x5 => ?_)
  refine g_aload_n (pc := 4) dX4_personAt_4 0 rfl ?_
  refine g_getr (pc := 5) cl4 (Nat.le_of_ble_eq_true rfl) fk436 (fun _ _ _ => rfl) dX4_personAt_5 (fun x6 => ?_)
  refine g_bRv (pc := 8) (c_SN (p_X11_copyAll hl x5 x6 h0) y_X11_copyAll tw1305 dX4_personAt_8 rfl (st := []) rfl (Nat.le_of_ble_eq_true rfl) (Nat.le_of_ble_eq_true rfl) (Nat.le_of_ble_eq_true rfl)) (fun _ h1 => ?_)
  refine g_iload_n (pc := 11) dX4_personAt_11 2 rfl ?_
  refine g_istore (pc := 12) (lv' := [(4, .int x3), (0, .ref (e_z E + x1)), (1, .ref (e_z E + x2)), (2, .int x3), (3, .int x4)]) dX4_personAt_12 (Nat.le_of_ble_eq_true rfl) rfl ?_
  refine g_iconst (pc := 14) dX4_personAt_14 ci_m1 ?_
  refine g_istore (pc := 15) (lv' := [(5, .int (-1 : Int32)), (4, .int x3), (0, .ref (e_z E + x1)), (1, .ref (e_z E + x2)), (2, .int x3), (3, .int x4)]) dX4_personAt_15 (Nat.le_of_ble_eq_true rfl) rfl ?_
  refine g_iconst (pc := 17) dX4_personAt_17 ci_0 ?_
  refine g_istore (pc := 18) (lv' := [(6, .int (0 : Int32)), (5, .int (-1 : Int32)), (4, .int x3), (0, .ref (e_z E + x1)), (1, .ref (e_z E + x2)), (2, .int x3), (3, .int x4)]) dX4_personAt_18 (Nat.le_of_ble_eq_true rfl) rfl ?_
  refine g_join (fun k => ∀ (x7 : Int32) (h2 : aH), J_X4_personAt l E n0 m0 116 [(5, .int x7)] [] h2 (k x7 h2)) (fun x7 h2 => ?_) (fun k116 hk116 => ?_)
  · refine g_iload (pc := 116) dX4_personAt_116 0 rfl ?_
    exact g_ret (pc := 118) rfl (isRet_i _) dX4_personAt_118 rfl
  refine g_lv [3, 4, 6, 2, 1, 0] rfl ?_
  refine g_loop3 (F := (m_X4_personAt_L20 x1 x2 x4 k116)) (fun x8 x9 x10 => [(0, .ref (e_z E + x1)), (1, .ref (e_z E + x2)), (3, .int x4), (4, .int x8), (5, .int x9), (6, .int x10)]) (fun r20 hr20 x8 x9 x10 h3 => ?_) _ _ _ _ _
  unfold m_X4_personAt_L20
  refine g_iload (pc := 20) dX4_personAt_20 5 rfl ?_
  refine g_iload_n (pc := 22) dX4_personAt_22 2 rfl ?_
  refine g_icmpgt (pc := 23) (tgt := 116) dX4_personAt_23 rfl ?_ ?_
  · refine g_iload (pc := 26) dX4_personAt_26 5 rfl ?_
    refine g_aload_n (pc := 28) dX4_personAt_28 1 rfl ?_
    refine g_geti (pc := 29) cl1 (Nat.le_of_ble_eq_true rfl) fk173 (fun _ _ _ => rfl) dX4_personAt_29 (fun x11 => ?_)
    refine g_icmpge (pc := 32) (tgt := 116) dX4_personAt_32 rfl ?_ ?_
    · refine g_aload_n (pc := 35) dX4_personAt_35 1 rfl ?_
      refine g_getr (pc := 36) cl1 (Nat.le_of_ble_eq_true rfl) fk177 (fun _ _ _ => rfl) dX4_personAt_36 (fun x12 => ?_)
      refine g_iload (pc := 39) dX4_personAt_39 5 rfl ?_
      refine g_iald (pc := 41) dX4_personAt_41 (fun x13 => ?_)
      refine g_istore (pc := 42) (lv' := [(7, .int x13), (0, .ref (e_z E + x1)), (1, .ref (e_z E + x2)), (3, .int x4), (4, .int x8), (5, .int x9), (6, .int x10)]) dX4_personAt_42 (Nat.le_of_ble_eq_true rfl) rfl ?_
      refine g_iconst (pc := 44) dX4_personAt_44 ci_0 ?_
      refine g_istore (pc := 45) (lv' := [(8, .int (0 : Int32)), (7, .int x13), (0, .ref (e_z E + x1)), (1, .ref (e_z E + x2)), (3, .int x4), (4, .int x8), (5, .int x9), (6, .int x10)]) dX4_personAt_45 (Nat.le_of_ble_eq_true rfl) rfl ?_
      refine g_join (fun k => ∀ (h4 : aH), J_X4_personAt l E n0 m0 83 [(0, .ref (e_z E + x1)), (1, .ref (e_z E + x2)), (3, .int x4), (4, .int x8), (6, .int x10), (7, .int x13)] [] h4 (k h4)) (fun h4 => ?_) (fun k83 hk83 => ?_)
      · refine g_aload_n (pc := 83) dX4_personAt_83 0 rfl ?_
        refine g_iload (pc := 84) dX4_personAt_84 5 rfl ?_
        refine g_iload (pc := 86) dX4_personAt_86 3 rfl ?_
        refine g_gS (fun hs => ?_)
        refine g_bRi (pc := 88) (c_V cl4 hs (p_X4_lowestFor hl x1 x13 x8 h4) y_X4_lowestFor tw1310 dX4_personAt_88 rfl (st := []) rfl (Nat.le_of_ble_eq_true rfl) (Nat.le_of_ble_eq_true rfl) (Nat.le_of_ble_eq_true rfl)) (fun x14 h5 => ?_)
        refine g_istore (pc := 91) (lv' := [(5, .int x14), (0, .ref (e_z E + x1)), (1, .ref (e_z E + x2)), (3, .int x4), (4, .int x8), (6, .int x10), (7, .int x13)]) dX4_personAt_91 (Nat.le_of_ble_eq_true rfl) rfl ?_
        refine g_iload (pc := 93) dX4_personAt_93 0 rfl ?_
        refine g_iconst (pc := 95) dX4_personAt_95 ci_m1 ?_
        refine g_join (fun k => ∀ (x15 : Int32) (h6 : aH), J_X4_personAt l E n0 m0 110 [(0, .ref (e_z E + x1)), (1, .ref (e_z E + x2)), (3, .int x4), (4, .int x15), (5, .int x14), (6, .int x10)] [] h6 (k x15 h6)) (fun x15 h6 => ?_) (fun k110 hk110 => ?_)
        · refine g_iincN (pc := 110) dX4_personAt_110 5 rfl ci_1 (Nat.le_of_ble_eq_true rfl) (fun x16 => ?_)
          refine g_lvr (lv' := [(6, .int x16), (0, .ref (e_z E + x1)), (1, .ref (e_z E + x2)), (3, .int x4), (4, .int x15), (5, .int x14)]) rfl ?_
          refine g_goto (pc := 113) (tgt := 20) dX4_personAt_113 rfl ?_
          refine g_lv [1, 2, 3, 4, 5, 0] rfl ?_
          exact hr20 x15 x14 x16 h6
        refine g_icmpeq (pc := 96) (tgt := 110) dX4_personAt_96 rfl ?_ ?_
        · refine g_lv [1, 2, 3, 4, 0, 5] rfl ?_
          exact hk110 x8 h5
        · refine g_iload (pc := 99) dX4_personAt_99 4 rfl ?_
          refine g_iconst (pc := 101) dX4_personAt_101 ci_1 ?_
          refine g_iload (pc := 102) dX4_personAt_102 0 rfl ?_
          refine g_ishl (pc := 104) dX4_personAt_104 ?_
          refine g_iconst (pc := 105) dX4_personAt_105 ci_m1 ?_
          refine g_ixor (pc := 106) dX4_personAt_106 ?_
          refine g_iand (pc := 107) dX4_personAt_107 ?_
          refine g_topi (fun x17 => ?_)
          refine g_istore (pc := 108) (lv' := [(4, .int x17), (5, .int x14), (0, .ref (e_z E + x1)), (1, .ref (e_z E + x2)), (3, .int x4), (6, .int x10), (7, .int x13)]) dX4_personAt_108 (Nat.le_of_ble_eq_true rfl) rfl ?_
          refine g_lv [2, 3, 4, 0, 1, 5] rfl ?_
          exact hk110 x17 h5
      refine g_lv [2, 3, 4, 5, 7, 1, 0] rfl ?_
      refine g_loop1 (F := (m_X4_personAt_L47 x1 x13 k83)) (fun x18 => [(0, .ref (e_z E + x1)), (1, .ref (e_z E + x2)), (3, .int x4), (4, .int x8), (6, .int x10), (7, .int x13), (8, .int x18)]) (fun r47 hr47 x18 h7 => ?_) _ _ _
      unfold m_X4_personAt_L47
      refine g_iload (pc := 47) dX4_personAt_47 6 rfl ?_
      refine g_bipush (pc := 49) dX4_personAt_49 cb_32 ?_
      refine g_icmpge (pc := 51) (tgt := 83) dX4_personAt_51 rfl ?_ ?_
      · refine g_aload_n (pc := 54) dX4_personAt_54 0 rfl ?_
        refine g_getr (pc := 55) cl4 (Nat.le_of_ble_eq_true rfl) fk436 (fun _ _ _ => rfl) dX4_personAt_55 (fun x19 => ?_)
        refine g_iload (pc := 58) dX4_personAt_58 6 rfl ?_
        refine g_dup2 (pc := 60) rfl rfl dX4_personAt_60 ?_
        refine g_iald (pc := 61) dX4_personAt_61 (fun x20 => ?_)
        refine g_iload (pc := 62) dX4_personAt_62 6 rfl ?_
        refine g_iload (pc := 64) dX4_personAt_64 5 rfl ?_
        refine g_iand (pc := 66) dX4_personAt_66 ?_
        refine g_join (fun k => ∀ (x21 : Int32) (h8 : aH), J_X4_personAt l E n0 m0 75 [(0, .ref (e_z E + x1)), (1, .ref (e_z E + x2)), (3, .int x4), (4, .int x8), (6, .int x10), (7, .int x13), (8, .int x18)] [.int x21, .int x20, .int x18, .ref (e_z E + x19)] h8 (k x21 h8)) (fun x21 h8 => ?_) (fun k75 hk75 => ?_)
        · refine g_isub (pc := 75) dX4_personAt_75 ?_
          refine g_iast (pc := 76) dX4_personAt_76 (fun h9 => ?_)
          refine g_iincN (pc := 77) dX4_personAt_77 6 rfl ci_1 (Nat.le_of_ble_eq_true rfl) (fun x22 => ?_)
          refine g_lvr (lv' := [(8, .int x22), (0, .ref (e_z E + x1)), (1, .ref (e_z E + x2)), (3, .int x4), (4, .int x8), (6, .int x10), (7, .int x13)]) rfl ?_
          refine g_goto (pc := 80) (tgt := 47) dX4_personAt_80 rfl ?_
          refine g_lv [1, 2, 3, 4, 5, 6, 0] rfl ?_
          exact hr47 x22 h9
        refine g_ifeq (pc := 67) (tgt := 74) dX4_personAt_67 rfl ?_ ?_
        · refine g_iconst (pc := 74) dX4_personAt_74 ci_0 ?_
          exact hk75 (0 : Int32) h7
        · refine g_iconst (pc := 70) dX4_personAt_70 ci_1 ?_
          refine g_goto (pc := 71) (tgt := 75) dX4_personAt_71 rfl ?_
          exact hk75 (1 : Int32) h7
      · refine g_lv [0, 1, 2, 3, 4, 5] rfl ?_
        exact hk83 h7
    · refine g_lv [4] rfl ?_
      exact hk116 x9 h3
  · refine g_lv [4] rfl ?_
    exact hk116 x9 h3
theorem p_X4_personAt {l : Launch} {E : aE} (hl : l.stackTraces = false) (x1 : Nat) (x2 : Nat) (x3 : Int32) (x4 : Int32) (h0 : aH) : MO (fun (v : Int32) => .inl (some (.int v))) l E yX4_personAt (.code yX4_personAt cX4_personAt 9 (some .int)) 3 79 [.ref (e_z E + x1), .ref (e_z E + x2), .int x3, .int x4] h0 (m_X4_personAt x1 x2 x3 x4 h0) := g_met hl (by decide +kernel) (Nat.le_of_ble_eq_true rfl) (b_X4_personAt hl _ _ x1 x2 x3 x4 h0)
theorem dJ7_fill_53178_0 : decode cJ7_fill_53178 0 = .ok (.iconst 0, 1) := by decide +kernel
theorem dJ7_fill_53178_1 : decode cJ7_fill_53178 1 = .ok (.istore_n 2, 1) := by decide +kernel
theorem dJ7_fill_53178_2 : decode cJ7_fill_53178 2 = .ok (.aload_n 0, 1) := by decide +kernel
theorem dJ7_fill_53178_3 : decode cJ7_fill_53178 3 = .ok (.arraylength, 1) := by decide +kernel
theorem dJ7_fill_53178_4 : decode cJ7_fill_53178 4 = .ok (.istore_n 3, 1) := by decide +kernel
theorem dJ7_fill_53178_5 : decode cJ7_fill_53178 5 = .ok (.iload_n 2, 1) := by decide +kernel
theorem dJ7_fill_53178_6 : decode cJ7_fill_53178 6 = .ok (.iload_n 3, 1) := by decide +kernel
theorem dJ7_fill_53178_7 : decode cJ7_fill_53178 7 = .ok (.if_icmp .ge 13, 3) := by decide +kernel
theorem dJ7_fill_53178_10 : decode cJ7_fill_53178 10 = .ok (.aload_n 0, 1) := by decide +kernel
theorem dJ7_fill_53178_11 : decode cJ7_fill_53178 11 = .ok (.iload_n 2, 1) := by decide +kernel
theorem dJ7_fill_53178_12 : decode cJ7_fill_53178 12 = .ok (.iload_n 1, 1) := by decide +kernel
theorem dJ7_fill_53178_13 : decode cJ7_fill_53178 13 = .ok (.iastore, 1) := by decide +kernel
theorem dJ7_fill_53178_14 : decode cJ7_fill_53178 14 = .ok (.iinc 2 1, 3) := by decide +kernel
theorem dJ7_fill_53178_17 : decode cJ7_fill_53178 17 = .ok (.goto (-12), 3) := by decide +kernel
theorem dJ7_fill_53178_20 : decode cJ7_fill_53178 20 = .ok (.return_, 1) := by decide +kernel
abbrev M_J7_fill_53178 : aM := (yJ7_fill_53178.cls, cJ7_fill_53178, 4, none, [], yJ7_fill_53178.name == "<init>")
abbrev J_J7_fill_53178 (l : Launch) (E : aE) (n0 m0 : Nat) := GG (fun (_ : Unit) => .inl none) l E M_J7_fill_53178 0 0 n0 m0
theorem b_J7_fill_53178 {l : Launch} {E : aE} (hl : l.stackTraces = false) (n0 m0 : Nat) (x1 : Nat) (x2 : Int32) (h0 : aH) : J_J7_fill_53178 l E n0 m0 0 [(0, .ref (e_z E + x1)), (1, .int x2)] [] h0 (m_J7_fill_53178 x1 x2 h0) := by
  unfold m_J7_fill_53178
  refine g_iconst (pc := 0) dJ7_fill_53178_0 ci_0 ?_
  refine g_istore_n (pc := 1) (lv' := [(2, .int (0 : Int32)), (0, .ref (e_z E + x1)), (1, .int x2)]) dJ7_fill_53178_1 (Nat.le_of_ble_eq_true rfl) rfl ?_
  refine g_aload_n (pc := 2) dJ7_fill_53178_2 1 rfl ?_
  refine g_alen (pc := 3) dJ7_fill_53178_3 (fun x3 => ?_)
  refine g_istore_n (pc := 4) (lv' := [(3, .int x3), (2, .int (0 : Int32)), (0, .ref (e_z E + x1)), (1, .int x2)]) dJ7_fill_53178_4 (Nat.le_of_ble_eq_true rfl) rfl ?_
  refine g_join (fun k => ∀ (h1 : aH), J_J7_fill_53178 l E n0 m0 20 [] [] h1 (k h1)) (fun h1 => ?_) (fun k20 hk20 => ?_)
  · exact g_ret (pc := 20) rfl isRet_v dJ7_fill_53178_20 rfl
  refine g_lv [2, 3, 1, 0] rfl ?_
  refine g_loop1 (F := (m_J7_fill_53178_L5 x1 x2 x3 k20)) (fun x4 => [(0, .ref (e_z E + x1)), (1, .int x2), (2, .int x4), (3, .int x3)]) (fun r5 hr5 x4 h2 => ?_) _ _ _
  unfold m_J7_fill_53178_L5
  refine g_iload_n (pc := 5) dJ7_fill_53178_5 2 rfl ?_
  refine g_iload_n (pc := 6) dJ7_fill_53178_6 3 rfl ?_
  refine g_icmpge (pc := 7) (tgt := 20) dJ7_fill_53178_7 rfl ?_ ?_
  · refine g_aload_n (pc := 10) dJ7_fill_53178_10 0 rfl ?_
    refine g_iload_n (pc := 11) dJ7_fill_53178_11 2 rfl ?_
    refine g_iload_n (pc := 12) dJ7_fill_53178_12 1 rfl ?_
    refine g_iast (pc := 13) dJ7_fill_53178_13 (fun h3 => ?_)
    refine g_iincN (pc := 14) dJ7_fill_53178_14 2 rfl ci_1 (Nat.le_of_ble_eq_true rfl) (fun x5 => ?_)
    refine g_lvr (lv' := [(2, .int x5), (0, .ref (e_z E + x1)), (1, .int x2), (3, .int x3)]) rfl ?_
    refine g_goto (pc := 17) (tgt := 5) dJ7_fill_53178_17 rfl ?_
    refine g_lv [1, 2, 0, 3] rfl ?_
    exact hr5 x5 h3
  · refine g_lv [] rfl ?_
    exact hk20 h2
theorem p_J7_fill_53178 {l : Launch} {E : aE} (hl : l.stackTraces = false) (x1 : Nat) (x2 : Int32) (h0 : aH) : MO (fun (_ : Unit) => .inl none) l E yJ7_fill_53178 (.code yJ7_fill_53178 cJ7_fill_53178 4 none) 0 0 [.ref (e_z E + x1), .int x2] h0 (m_J7_fill_53178 x1 x2 h0) := g_met hl (by decide +kernel) (Nat.le_of_ble_eq_true rfl) (b_J7_fill_53178 hl _ _ x1 x2 h0)
theorem dX4_couldLeaveTogether_0 : decode cX4_couldLeaveTogether 0 = .ok (.aload_n 0, 1) := by decide +kernel
theorem dX4_couldLeaveTogether_1 : decode cX4_couldLeaveTogether 1 = .ok (.getfield 30, 3) := by decide +kernel
theorem dX4_couldLeaveTogether_4 : decode cX4_couldLeaveTogether 4 = .ok (.iconst 0, 1) := by decide +kernel
theorem dX4_couldLeaveTogether_5 : decode cX4_couldLeaveTogether 5 = .ok (.invokestatic 166, 3) := by decide +kernel
theorem dX4_couldLeaveTogether_8 : decode cX4_couldLeaveTogether 8 = .ok (.iconst 0, 1) := by decide +kernel
theorem dX4_couldLeaveTogether_9 : decode cX4_couldLeaveTogether 9 = .ok (.istore_n 3, 1) := by decide +kernel
theorem dX4_couldLeaveTogether_10 : decode cX4_couldLeaveTogether 10 = .ok (.iload_n 3, 1) := by decide +kernel
theorem dX4_couldLeaveTogether_11 : decode cX4_couldLeaveTogether 11 = .ok (.aload_n 1, 1) := by decide +kernel
theorem dX4_couldLeaveTogether_12 : decode cX4_couldLeaveTogether 12 = .ok (.getfield 55, 3) := by decide +kernel
theorem dX4_couldLeaveTogether_15 : decode cX4_couldLeaveTogether 15 = .ok (.if_icmp .ge 89, 3) := by decide +kernel
theorem dX4_couldLeaveTogether_18 : decode cX4_couldLeaveTogether 18 = .ok (.iload_n 2, 1) := by decide +kernel
theorem dX4_couldLeaveTogether_19 : decode cX4_couldLeaveTogether 19 = .ok (.iload_n 3, 1) := by decide +kernel
theorem dX4_couldLeaveTogether_20 : decode cX4_couldLeaveTogether 20 = .ok (.invokestatic 92, 3) := by decide +kernel
theorem dX4_couldLeaveTogether_23 : decode cX4_couldLeaveTogether 23 = .ok (.ifCond .eq 75, 3) := by decide +kernel
theorem dX4_couldLeaveTogether_26 : decode cX4_couldLeaveTogether 26 = .ok (.aload_n 0, 1) := by decide +kernel
theorem dX4_couldLeaveTogether_27 : decode cX4_couldLeaveTogether 27 = .ok (.getfield 18, 3) := by decide +kernel
theorem dX4_couldLeaveTogether_30 : decode cX4_couldLeaveTogether 30 = .ok (.iload_n 3, 1) := by decide +kernel
theorem dX4_couldLeaveTogether_31 : decode cX4_couldLeaveTogether 31 = .ok (.iaload, 1) := by decide +kernel
theorem dX4_couldLeaveTogether_32 : decode cX4_couldLeaveTogether 32 = .ok (.iconst 1, 1) := by decide +kernel
theorem dX4_couldLeaveTogether_33 : decode cX4_couldLeaveTogether 33 = .ok (.if_icmp .eq 13, 3) := by decide +kernel
theorem dX4_couldLeaveTogether_36 : decode cX4_couldLeaveTogether 36 = .ok (.aload_n 0, 1) := by decide +kernel
theorem dX4_couldLeaveTogether_37 : decode cX4_couldLeaveTogether 37 = .ok (.getfield 18, 3) := by decide +kernel
theorem dX4_couldLeaveTogether_40 : decode cX4_couldLeaveTogether 40 = .ok (.iload_n 3, 1) := by decide +kernel
theorem dX4_couldLeaveTogether_41 : decode cX4_couldLeaveTogether 41 = .ok (.iaload, 1) := by decide +kernel
theorem dX4_couldLeaveTogether_42 : decode cX4_couldLeaveTogether 42 = .ok (.iconst 2, 1) := by decide +kernel
theorem dX4_couldLeaveTogether_43 : decode cX4_couldLeaveTogether 43 = .ok (.if_icmp .ne 5, 3) := by decide +kernel
theorem dX4_couldLeaveTogether_46 : decode cX4_couldLeaveTogether 46 = .ok (.iconst 0, 1) := by decide +kernel
theorem dX4_couldLeaveTogether_47 : decode cX4_couldLeaveTogether 47 = .ok (.ireturn, 1) := by decide +kernel
theorem dX4_couldLeaveTogether_48 : decode cX4_couldLeaveTogether 48 = .ok (.aload_n 0, 1) := by decide +kernel
theorem dX4_couldLeaveTogether_49 : decode cX4_couldLeaveTogether 49 = .ok (.getfield 43, 3) := by decide +kernel
theorem dX4_couldLeaveTogether_52 : decode cX4_couldLeaveTogether 52 = .ok (.getfield 112, 3) := by decide +kernel
theorem dX4_couldLeaveTogether_55 : decode cX4_couldLeaveTogether 55 = .ok (.aload_n 1, 1) := by decide +kernel
theorem dX4_couldLeaveTogether_56 : decode cX4_couldLeaveTogether 56 = .ok (.getfield 60, 3) := by decide +kernel
theorem dX4_couldLeaveTogether_59 : decode cX4_couldLeaveTogether 59 = .ok (.iload_n 3, 1) := by decide +kernel
theorem dX4_couldLeaveTogether_60 : decode cX4_couldLeaveTogether 60 = .ok (.iaload, 1) := by decide +kernel
theorem dX4_couldLeaveTogether_61 : decode cX4_couldLeaveTogether 61 = .ok (.aaload, 1) := by decide +kernel
theorem dX4_couldLeaveTogether_62 : decode cX4_couldLeaveTogether 62 = .ok (.astore 4, 2) := by decide +kernel
theorem dX4_couldLeaveTogether_64 : decode cX4_couldLeaveTogether 64 = .ok (.iconst 0, 1) := by decide +kernel
theorem dX4_couldLeaveTogether_65 : decode cX4_couldLeaveTogether 65 = .ok (.istore 5, 2) := by decide +kernel
theorem dX4_couldLeaveTogether_67 : decode cX4_couldLeaveTogether 67 = .ok (.iload 5, 2) := by decide +kernel
theorem dX4_couldLeaveTogether_69 : decode cX4_couldLeaveTogether 69 = .ok (.bipush 32, 2) := by decide +kernel
theorem dX4_couldLeaveTogether_71 : decode cX4_couldLeaveTogether 71 = .ok (.if_icmp .ge 27, 3) := by decide +kernel
theorem dX4_couldLeaveTogether_74 : decode cX4_couldLeaveTogether 74 = .ok (.aload_n 0, 1) := by decide +kernel
theorem dX4_couldLeaveTogether_75 : decode cX4_couldLeaveTogether 75 = .ok (.getfield 30, 3) := by decide +kernel
theorem dX4_couldLeaveTogether_78 : decode cX4_couldLeaveTogether 78 = .ok (.iload 5, 2) := by decide +kernel
theorem dX4_couldLeaveTogether_80 : decode cX4_couldLeaveTogether 80 = .ok (.dup2, 1) := by decide +kernel
theorem dX4_couldLeaveTogether_81 : decode cX4_couldLeaveTogether 81 = .ok (.iaload, 1) := by decide +kernel
theorem dX4_couldLeaveTogether_82 : decode cX4_couldLeaveTogether 82 = .ok (.aload 4, 2) := by decide +kernel
theorem dX4_couldLeaveTogether_84 : decode cX4_couldLeaveTogether 84 = .ok (.getfield 115, 3) := by decide +kernel
theorem dX4_couldLeaveTogether_87 : decode cX4_couldLeaveTogether 87 = .ok (.iload 5, 2) := by decide +kernel
theorem dX4_couldLeaveTogether_89 : decode cX4_couldLeaveTogether 89 = .ok (.iaload, 1) := by decide +kernel
theorem dX4_couldLeaveTogether_90 : decode cX4_couldLeaveTogether 90 = .ok (.iadd, 1) := by decide +kernel
theorem dX4_couldLeaveTogether_91 : decode cX4_couldLeaveTogether 91 = .ok (.iastore, 1) := by decide +kernel
theorem dX4_couldLeaveTogether_92 : decode cX4_couldLeaveTogether 92 = .ok (.iinc 5 1, 3) := by decide +kernel
theorem dX4_couldLeaveTogether_95 : decode cX4_couldLeaveTogether 95 = .ok (.goto (-28), 3) := by decide +kernel
theorem dX4_couldLeaveTogether_98 : decode cX4_couldLeaveTogether 98 = .ok (.iinc 3 1, 3) := by decide +kernel
theorem dX4_couldLeaveTogether_101 : decode cX4_couldLeaveTogether 101 = .ok (.goto (-91), 3) := by decide +kernel
theorem dX4_couldLeaveTogether_104 : decode cX4_couldLeaveTogether 104 = .ok (.aload_n 0, 1) := by decide +kernel
theorem dX4_couldLeaveTogether_105 : decode cX4_couldLeaveTogether 105 = .ok (.getfield 43, 3) := by decide +kernel
theorem dX4_couldLeaveTogether_108 : decode cX4_couldLeaveTogether 108 = .ok (.aload_n 0, 1) := by decide +kernel
theorem dX4_couldLeaveTogether_109 : decode cX4_couldLeaveTogether 109 = .ok (.getfield 30, 3) := by decide +kernel
theorem dX4_couldLeaveTogether_112 : decode cX4_couldLeaveTogether 112 = .ok (.aload_n 0, 1) := by decide +kernel
theorem dX4_couldLeaveTogether_113 : decode cX4_couldLeaveTogether 113 = .ok (.getfield 48, 3) := by decide +kernel
theorem dX4_couldLeaveTogether_116 : decode cX4_couldLeaveTogether 116 = .ok (.invokevirtual 120, 3) := by decide +kernel
theorem dX4_couldLeaveTogether_119 : decode cX4_couldLeaveTogether 119 = .ok (.aload_n 0, 1) := by decide +kernel
theorem dX4_couldLeaveTogether_120 : decode cX4_couldLeaveTogether 120 = .ok (.getfield 30, 3) := by decide +kernel
theorem dX4_couldLeaveTogether_123 : decode cX4_couldLeaveTogether 123 = .ok (.bipush 31, 2) := by decide +kernel
theorem dX4_couldLeaveTogether_125 : decode cX4_couldLeaveTogether 125 = .ok (.iaload, 1) := by decide +kernel
theorem dX4_couldLeaveTogether_126 : decode cX4_couldLeaveTogether 126 = .ok (.if_icmp .ne 7, 3) := by decide +kernel
theorem dX4_couldLeaveTogether_129 : decode cX4_couldLeaveTogether 129 = .ok (.iconst 1, 1) := by decide +kernel
theorem dX4_couldLeaveTogether_130 : decode cX4_couldLeaveTogether 130 = .ok (.goto 4, 3) := by decide +kernel
theorem dX4_couldLeaveTogether_133 : decode cX4_couldLeaveTogether 133 = .ok (.iconst 0, 1) := by decide +kernel
theorem dX4_couldLeaveTogether_134 : decode cX4_couldLeaveTogether 134 = .ok (.ireturn, 1) := by decide +kernel
abbrev M_X4_couldLeaveTogether : aM := (yX4_couldLeaveTogether.cls, cX4_couldLeaveTogether, 6, (some .boolean), [], yX4_couldLeaveTogether.name == "<init>")
abbrev J_X4_couldLeaveTogether (l : Launch) (E : aE) (n0 m0 : Nat) := GG (fun (v : Int32) => .inl (some (.int v))) l E M_X4_couldLeaveTogether 2 55 n0 m0
theorem b_X4_couldLeaveTogether {l : Launch} {E : aE} (hl : l.stackTraces = false) (n0 m0 : Nat) (x1 : Nat) (x2 : Nat) (x3 : Int32) (h0 : aH) : J_X4_couldLeaveTogether l E n0 m0 0 [(0, .ref (e_z E + x1)), (1, .ref (e_z E + x2)), (2, .int x3)] [] h0 (m_X4_couldLeaveTogether x1 x2 x3 h0) := by
  unfold m_X4_couldLeaveTogether
  refine g_aload_n (pc := 0) dX4_couldLeaveTogether_0 0 rfl ?_
  refine g_getr (pc := 1) cl4 (Nat.le_of_ble_eq_true rfl) fk436 (fun _ _ _ => rfl) dX4_couldLeaveTogether_1 (fun x4 => ?_)
  refine g_iconst (pc := 4) dX4_couldLeaveTogether_4 ci_0 ?_
  refine g_bRv (pc := 5) (c_S (p_J7_fill_53178 hl x4 (0 : Int32) h0) y_J7_fill_53178 tw1344 dX4_couldLeaveTogether_5 rfl (st := []) rfl (Nat.le_of_ble_eq_true rfl) (Nat.le_of_ble_eq_true rfl) (Nat.le_of_ble_eq_true rfl)) (fun _ h1 => ?_)
  refine g_iconst (pc := 8) dX4_couldLeaveTogether_8 ci_0 ?_
  refine g_istore_n (pc := 9) (lv' := [(3, .int (0 : Int32)), (0, .ref (e_z E + x1)), (1, .ref (e_z E + x2)), (2, .int x3)]) dX4_couldLeaveTogether_9 (Nat.le_of_ble_eq_true rfl) rfl ?_
  refine g_join (fun k => ∀ (h2 : aH), J_X4_couldLeaveTogether l E n0 m0 104 [(0, .ref (e_z E + x1))] [] h2 (k h2)) (fun h2 => ?_) (fun k104 hk104 => ?_)
  · refine g_aload_n (pc := 104) dX4_couldLeaveTogether_104 0 rfl ?_
    refine g_getr (pc := 105) cl4 (Nat.le_of_ble_eq_true rfl) fk422 (fun _ _ _ => rfl) dX4_couldLeaveTogether_105 (fun x5 => ?_)
    refine g_aload_n (pc := 108) dX4_couldLeaveTogether_108 0 rfl ?_
    refine g_getr (pc := 109) cl4 (Nat.le_of_ble_eq_true rfl) fk436 (fun _ _ _ => rfl) dX4_couldLeaveTogether_109 (fun x6 => ?_)
    refine g_aload_n (pc := 112) dX4_couldLeaveTogether_112 0 rfl ?_
    refine g_geti (pc := 113) cl4 (Nat.le_of_ble_eq_true rfl) fk426 (fun _ _ _ => rfl) dX4_couldLeaveTogether_113 (fun x7 => ?_)
    refine g_gS (fun hs => ?_)
    refine g_bRi (pc := 116) (c_VN cl8 hs (p_X8_mostManned hl x5 x6 x7 h2) y_X8_mostManned tw1245 dX4_couldLeaveTogether_116 rfl (st := []) rfl (Nat.le_of_ble_eq_true rfl) (Nat.le_of_ble_eq_true rfl) (Nat.le_of_ble_eq_true rfl)) (fun x8 h3 => ?_)
    refine g_aload_n (pc := 119) dX4_couldLeaveTogether_119 0 rfl ?_
    refine g_getr (pc := 120) cl4 (Nat.le_of_ble_eq_true rfl) fk436 (fun _ _ _ => rfl) dX4_couldLeaveTogether_120 (fun x9 => ?_)
    refine g_bipush (pc := 123) dX4_couldLeaveTogether_123 cb_31 ?_
    refine g_iald (pc := 125) dX4_couldLeaveTogether_125 (fun x10 => ?_)
    refine g_join (fun k => ∀ (x11 : Int32) (h4 : aH), J_X4_couldLeaveTogether l E n0 m0 134 [] [.int x11] h4 (k x11 h4)) (fun x11 h4 => ?_) (fun k134 hk134 => ?_)
    · refine g_zO (fun hz => ?_)
      exact g_ret (pc := 134) rfl (isRet_z hz) dX4_couldLeaveTogether_134 rfl
    refine g_icmpne (pc := 126) (tgt := 133) dX4_couldLeaveTogether_126 rfl ?_ ?_
    · refine g_iconst (pc := 129) dX4_couldLeaveTogether_129 ci_1 ?_
      refine g_goto (pc := 130) (tgt := 134) dX4_couldLeaveTogether_130 rfl ?_
      refine g_lv [] rfl ?_
      exact hk134 (1 : Int32) h3
    · refine g_iconst (pc := 133) dX4_couldLeaveTogether_133 ci_0 ?_
      refine g_lv [] rfl ?_
      exact hk134 (0 : Int32) h3
  refine g_join (fun k => ∀ (h5 : aH), J_X4_couldLeaveTogether l E n0 m0 46 [] [] h5 (k h5)) (fun h5 => ?_) (fun k46 hk46 => ?_)
  · refine g_iconst (pc := 46) dX4_couldLeaveTogether_46 ci_0 ?_
    exact g_ret (pc := 47) rfl (isRet_z (Or.inl rfl)) dX4_couldLeaveTogether_47 rfl
  refine g_lv [1, 2, 3, 0] rfl ?_
  refine g_loop1 (F := (m_X4_couldLeaveTogether_L10 x1 x2 x3 k104 k46)) (fun x13 => [(0, .ref (e_z E + x1)), (1, .ref (e_z E + x2)), (2, .int x3), (3, .int x13)]) (fun r10 hr10 x13 h6 => ?_) _ _ _
  unfold m_X4_couldLeaveTogether_L10
  refine g_iload_n (pc := 10) dX4_couldLeaveTogether_10 3 rfl ?_
  refine g_aload_n (pc := 11) dX4_couldLeaveTogether_11 1 rfl ?_
  refine g_geti (pc := 12) cl3 (Nat.le_of_ble_eq_true rfl) fk210 (fun _ _ _ => rfl) dX4_couldLeaveTogether_12 (fun x14 => ?_)
  refine g_icmpge (pc := 15) (tgt := 104) dX4_couldLeaveTogether_15 rfl ?_ ?_
  · refine g_iload_n (pc := 18) dX4_couldLeaveTogether_18 2 rfl ?_
    refine g_iload_n (pc := 19) dX4_couldLeaveTogether_19 3 rfl ?_
    refine g_bRi (pc := 20) (c_SN (p_X11_has hl x3 x13 h6) y_X11_has tw1234 dX4_couldLeaveTogether_20 rfl (st := []) rfl (Nat.le_of_ble_eq_true rfl) (Nat.le_of_ble_eq_true rfl) (Nat.le_of_ble_eq_true rfl)) (fun x15 h7 => ?_)
    refine g_join (fun k => ∀ (h8 : aH), J_X4_couldLeaveTogether l E n0 m0 98 [(0, .ref (e_z E + x1)), (1, .ref (e_z E + x2)), (2, .int x3), (3, .int x13)] [] h8 (k h8)) (fun h8 => ?_) (fun k98 hk98 => ?_)
    · refine g_iincN (pc := 98) dX4_couldLeaveTogether_98 3 rfl ci_1 (Nat.le_of_ble_eq_true rfl) (fun x16 => ?_)
      refine g_lvr (lv' := [(3, .int x16), (0, .ref (e_z E + x1)), (1, .ref (e_z E + x2)), (2, .int x3)]) rfl ?_
      refine g_goto (pc := 101) (tgt := 10) dX4_couldLeaveTogether_101 rfl ?_
      refine g_lv [1, 2, 3, 0] rfl ?_
      exact hr10 x16 h8
    refine g_ifeq (pc := 23) (tgt := 98) dX4_couldLeaveTogether_23 rfl ?_ ?_
    · exact hk98 h7
    · refine g_aload_n (pc := 26) dX4_couldLeaveTogether_26 0 rfl ?_
      refine g_getr (pc := 27) cl4 (Nat.le_of_ble_eq_true rfl) fk428 (fun _ _ _ => rfl) dX4_couldLeaveTogether_27 (fun x17 => ?_)
      refine g_iload_n (pc := 30) dX4_couldLeaveTogether_30 3 rfl ?_
      refine g_iald (pc := 31) dX4_couldLeaveTogether_31 (fun x18 => ?_)
      refine g_iconst (pc := 32) dX4_couldLeaveTogether_32 ci_1 ?_
      refine g_icmpeq (pc := 33) (tgt := 46) dX4_couldLeaveTogether_33 rfl ?_ ?_
      · refine g_lv [] rfl ?_
        exact hk46 h7
      · refine g_aload_n (pc := 36) dX4_couldLeaveTogether_36 0 rfl ?_
        refine g_getr (pc := 37) cl4 (Nat.le_of_ble_eq_true rfl) fk428 (fun _ _ _ => rfl) dX4_couldLeaveTogether_37 (fun x19 => ?_)
        refine g_iload_n (pc := 40) dX4_couldLeaveTogether_40 3 rfl ?_
        refine g_iald (pc := 41) dX4_couldLeaveTogether_41 (fun x20 => ?_)
        refine g_iconst (pc := 42) dX4_couldLeaveTogether_42 ci_2 ?_
        refine g_icmpne (pc := 43) (tgt := 48) dX4_couldLeaveTogether_43 rfl ?_ ?_
        · refine g_lv [] rfl ?_
          exact hk46 h7
        · refine g_aload_n (pc := 48) dX4_couldLeaveTogether_48 0 rfl ?_
          refine g_getr (pc := 49) cl4 (Nat.le_of_ble_eq_true rfl) fk422 (fun _ _ _ => rfl) dX4_couldLeaveTogether_49 (fun x21 => ?_)
          refine g_getr (pc := 52) cl8 (Nat.le_of_ble_eq_true rfl) fk265 (fun _ _ _ => rfl) dX4_couldLeaveTogether_52 (fun x22 => ?_)
          refine g_aload_n (pc := 55) dX4_couldLeaveTogether_55 1 rfl ?_
          refine g_getr (pc := 56) cl3 (Nat.le_of_ble_eq_true rfl) fk214 (fun _ _ _ => rfl) dX4_couldLeaveTogether_56 (fun x23 => ?_)
          refine g_iload_n (pc := 59) dX4_couldLeaveTogether_59 3 rfl ?_
          refine g_iald (pc := 60) dX4_couldLeaveTogether_60 (fun x24 => ?_)
          refine g_aald (pc := 61) (t := 7) (Nat.le_of_ble_eq_true rfl) (Nat.le_of_ble_eq_true rfl) dX4_couldLeaveTogether_61 (fun x25 => ?_)
          refine g_astore (pc := 62) (lv' := [(4, .ref (e_z E + x25)), (0, .ref (e_z E + x1)), (1, .ref (e_z E + x2)), (2, .int x3), (3, .int x13)]) dX4_couldLeaveTogether_62 (Nat.le_of_ble_eq_true rfl) rfl ?_
          refine g_iconst (pc := 64) dX4_couldLeaveTogether_64 ci_0 ?_
          refine g_istore (pc := 65) (lv' := [(5, .int (0 : Int32)), (4, .ref (e_z E + x25)), (0, .ref (e_z E + x1)), (1, .ref (e_z E + x2)), (2, .int x3), (3, .int x13)]) dX4_couldLeaveTogether_65 (Nat.le_of_ble_eq_true rfl) rfl ?_
          refine g_lv [2, 3, 4, 5, 1, 0] rfl ?_
          refine g_loop1 (F := (m_X4_couldLeaveTogether_L67 x1 k98 x25)) (fun x26 => [(0, .ref (e_z E + x1)), (1, .ref (e_z E + x2)), (2, .int x3), (3, .int x13), (4, .ref (e_z E + x25)), (5, .int x26)]) (fun r67 hr67 x26 h9 => ?_) _ _ _
          unfold m_X4_couldLeaveTogether_L67
          refine g_iload (pc := 67) dX4_couldLeaveTogether_67 5 rfl ?_
          refine g_bipush (pc := 69) dX4_couldLeaveTogether_69 cb_32 ?_
          refine g_icmpge (pc := 71) (tgt := 98) dX4_couldLeaveTogether_71 rfl ?_ ?_
          · refine g_aload_n (pc := 74) dX4_couldLeaveTogether_74 0 rfl ?_
            refine g_getr (pc := 75) cl4 (Nat.le_of_ble_eq_true rfl) fk436 (fun _ _ _ => rfl) dX4_couldLeaveTogether_75 (fun x27 => ?_)
            refine g_iload (pc := 78) dX4_couldLeaveTogether_78 5 rfl ?_
            refine g_dup2 (pc := 80) rfl rfl dX4_couldLeaveTogether_80 ?_
            refine g_iald (pc := 81) dX4_couldLeaveTogether_81 (fun x28 => ?_)
            refine g_aload (pc := 82) dX4_couldLeaveTogether_82 4 rfl ?_
            refine g_getr (pc := 84) cl1 (Nat.le_of_ble_eq_true rfl) fk179 (fun _ _ _ => rfl) dX4_couldLeaveTogether_84 (fun x29 => ?_)
            refine g_iload (pc := 87) dX4_couldLeaveTogether_87 5 rfl ?_
            refine g_iald (pc := 89) dX4_couldLeaveTogether_89 (fun x30 => ?_)
            refine g_iadd (pc := 90) dX4_couldLeaveTogether_90 ?_
            refine g_iast (pc := 91) dX4_couldLeaveTogether_91 (fun h10 => ?_)
            refine g_iincN (pc := 92) dX4_couldLeaveTogether_92 5 rfl ci_1 (Nat.le_of_ble_eq_true rfl) (fun x31 => ?_)
            refine g_lvr (lv' := [(5, .int x31), (0, .ref (e_z E + x1)), (1, .ref (e_z E + x2)), (2, .int x3), (3, .int x13), (4, .ref (e_z E + x25))]) rfl ?_
            refine g_goto (pc := 95) (tgt := 67) dX4_couldLeaveTogether_95 rfl ?_
            refine g_lv [1, 2, 3, 4, 5, 0] rfl ?_
            exact hr67 x31 h10
          · refine g_lv [0, 1, 2, 3] rfl ?_
            exact hk98 h9
  · refine g_lv [0] rfl ?_
    exact hk104 h6
theorem p_X4_couldLeaveTogether {l : Launch} {E : aE} (hl : l.stackTraces = false) (x1 : Nat) (x2 : Nat) (x3 : Int32) (h0 : aH) : MO (fun (v : Int32) => .inl (some (.int v))) l E yX4_couldLeaveTogether (.code yX4_couldLeaveTogether cX4_couldLeaveTogether 6 (some .boolean)) 2 55 [.ref (e_z E + x1), .ref (e_z E + x2), .int x3] h0 (m_X4_couldLeaveTogether x1 x2 x3 h0) := g_met hl (by decide +kernel) (Nat.le_of_ble_eq_true rfl) (b_X4_couldLeaveTogether hl _ _ x1 x2 x3 h0)
theorem dX4_mostTogether_0 : decode cX4_mostTogether 0 = .ok (.iconst 0, 1) := by decide +kernel
theorem dX4_mostTogether_1 : decode cX4_mostTogether 1 = .ok (.istore_n 2, 1) := by decide +kernel
theorem dX4_mostTogether_2 : decode cX4_mostTogether 2 = .ok (.iconst 0, 1) := by decide +kernel
theorem dX4_mostTogether_3 : decode cX4_mostTogether 3 = .ok (.istore_n 3, 1) := by decide +kernel
theorem dX4_mostTogether_4 : decode cX4_mostTogether 4 = .ok (.iload_n 3, 1) := by decide +kernel
theorem dX4_mostTogether_5 : decode cX4_mostTogether 5 = .ok (.iconst 1, 1) := by decide +kernel
theorem dX4_mostTogether_6 : decode cX4_mostTogether 6 = .ok (.aload_n 1, 1) := by decide +kernel
theorem dX4_mostTogether_7 : decode cX4_mostTogether 7 = .ok (.getfield 55, 3) := by decide +kernel
theorem dX4_mostTogether_10 : decode cX4_mostTogether 10 = .ok (.ishl, 1) := by decide +kernel
theorem dX4_mostTogether_11 : decode cX4_mostTogether 11 = .ok (.if_icmp .ge 31, 3) := by decide +kernel
theorem dX4_mostTogether_14 : decode cX4_mostTogether 14 = .ok (.iload_n 3, 1) := by decide +kernel
theorem dX4_mostTogether_15 : decode cX4_mostTogether 15 = .ok (.invokestatic 157, 3) := by decide +kernel
theorem dX4_mostTogether_18 : decode cX4_mostTogether 18 = .ok (.iload_n 2, 1) := by decide +kernel
theorem dX4_mostTogether_19 : decode cX4_mostTogether 19 = .ok (.if_icmp .le 17, 3) := by decide +kernel
theorem dX4_mostTogether_22 : decode cX4_mostTogether 22 = .ok (.aload_n 0, 1) := by decide +kernel
theorem dX4_mostTogether_23 : decode cX4_mostTogether 23 = .ok (.aload_n 1, 1) := by decide +kernel
theorem dX4_mostTogether_24 : decode cX4_mostTogether 24 = .ok (.iload_n 3, 1) := by decide +kernel
theorem dX4_mostTogether_25 : decode cX4_mostTogether 25 = .ok (.invokevirtual 162, 3) := by decide +kernel
theorem dX4_mostTogether_28 : decode cX4_mostTogether 28 = .ok (.ifCond .eq 8, 3) := by decide +kernel
theorem dX4_mostTogether_31 : decode cX4_mostTogether 31 = .ok (.iload_n 3, 1) := by decide +kernel
theorem dX4_mostTogether_32 : decode cX4_mostTogether 32 = .ok (.invokestatic 157, 3) := by decide +kernel
theorem dX4_mostTogether_35 : decode cX4_mostTogether 35 = .ok (.istore_n 2, 1) := by decide +kernel
theorem dX4_mostTogether_36 : decode cX4_mostTogether 36 = .ok (.iinc 3 1, 3) := by decide +kernel
theorem dX4_mostTogether_39 : decode cX4_mostTogether 39 = .ok (.goto (-35), 3) := by decide +kernel
theorem dX4_mostTogether_42 : decode cX4_mostTogether 42 = .ok (.iload_n 2, 1) := by decide +kernel
theorem dX4_mostTogether_43 : decode cX4_mostTogether 43 = .ok (.ireturn, 1) := by decide +kernel
abbrev M_X4_mostTogether : aM := (yX4_mostTogether.cls, cX4_mostTogether, 4, (some .int), [], yX4_mostTogether.name == "<init>")
abbrev J_X4_mostTogether (l : Launch) (E : aE) (n0 m0 : Nat) := GG (fun (v : Int32) => .inl (some (.int v))) l E M_X4_mostTogether 3 80 n0 m0
theorem b_X4_mostTogether {l : Launch} {E : aE} (hl : l.stackTraces = false) (n0 m0 : Nat) (x1 : Nat) (x2 : Nat) (h0 : aH) : J_X4_mostTogether l E n0 m0 0 [(0, .ref (e_z E + x1)), (1, .ref (e_z E + x2))] [] h0 (m_X4_mostTogether x1 x2 h0) := by
  unfold m_X4_mostTogether
  refine g_iconst (pc := 0) dX4_mostTogether_0 ci_0 ?_
  refine g_istore_n (pc := 1) (lv' := [(2, .int (0 : Int32)), (0, .ref (e_z E + x1)), (1, .ref (e_z E + x2))]) dX4_mostTogether_1 (Nat.le_of_ble_eq_true rfl) rfl ?_
  refine g_iconst (pc := 2) dX4_mostTogether_2 ci_0 ?_
  refine g_istore_n (pc := 3) (lv' := [(3, .int (0 : Int32)), (2, .int (0 : Int32)), (0, .ref (e_z E + x1)), (1, .ref (e_z E + x2))]) dX4_mostTogether_3 (Nat.le_of_ble_eq_true rfl) rfl ?_
  refine g_join (fun k => ∀ (x3 : Int32) (h1 : aH), J_X4_mostTogether l E n0 m0 42 [(2, .int x3)] [] h1 (k x3 h1)) (fun x3 h1 => ?_) (fun k42 hk42 => ?_)
  · refine g_iload_n (pc := 42) dX4_mostTogether_42 0 rfl ?_
    exact g_ret (pc := 43) rfl (isRet_i _) dX4_mostTogether_43 rfl
  refine g_lv [2, 3, 1, 0] rfl ?_
  refine g_loop2 (F := (m_X4_mostTogether_L4 x1 x2 k42)) (fun x4 x5 => [(0, .ref (e_z E + x1)), (1, .ref (e_z E + x2)), (2, .int x4), (3, .int x5)]) (fun r4 hr4 x4 x5 h2 => ?_) _ _ _ _
  unfold m_X4_mostTogether_L4
  refine g_iload_n (pc := 4) dX4_mostTogether_4 3 rfl ?_
  refine g_iconst (pc := 5) dX4_mostTogether_5 ci_1 ?_
  refine g_aload_n (pc := 6) dX4_mostTogether_6 1 rfl ?_
  refine g_geti (pc := 7) cl3 (Nat.le_of_ble_eq_true rfl) fk210 (fun _ _ _ => rfl) dX4_mostTogether_7 (fun x6 => ?_)
  refine g_ishl (pc := 10) dX4_mostTogether_10 ?_
  refine g_icmpge (pc := 11) (tgt := 42) dX4_mostTogether_11 rfl ?_ ?_
  · refine g_iload_n (pc := 14) dX4_mostTogether_14 3 rfl ?_
    refine g_bRi (pc := 15) (c_S (p_J6_bitCount_0f7a4 hl x5 h2) y_J6_bitCount_0f7a4 tw1339 dX4_mostTogether_15 rfl (st := []) rfl (Nat.le_of_ble_eq_true rfl) (Nat.le_of_ble_eq_true rfl) (Nat.le_of_ble_eq_true rfl)) (fun x7 h3 => ?_)
    refine g_iload_n (pc := 18) dX4_mostTogether_18 2 rfl ?_
    refine g_join (fun k => ∀ (x8 : Int32) (h4 : aH), J_X4_mostTogether l E n0 m0 36 [(0, .ref (e_z E + x1)), (1, .ref (e_z E + x2)), (2, .int x8), (3, .int x5)] [] h4 (k x8 h4)) (fun x8 h4 => ?_) (fun k36 hk36 => ?_)
    · refine g_iincN (pc := 36) dX4_mostTogether_36 3 rfl ci_1 (Nat.le_of_ble_eq_true rfl) (fun x9 => ?_)
      refine g_lvr (lv' := [(3, .int x9), (0, .ref (e_z E + x1)), (1, .ref (e_z E + x2)), (2, .int x8)]) rfl ?_
      refine g_goto (pc := 39) (tgt := 4) dX4_mostTogether_39 rfl ?_
      refine g_lv [1, 2, 3, 0] rfl ?_
      exact hr4 x8 x9 h4
    refine g_icmple (pc := 19) (tgt := 36) dX4_mostTogether_19 rfl ?_ ?_
    · exact hk36 x4 h3
    · refine g_aload_n (pc := 22) dX4_mostTogether_22 0 rfl ?_
      refine g_aload_n (pc := 23) dX4_mostTogether_23 1 rfl ?_
      refine g_iload_n (pc := 24) dX4_mostTogether_24 3 rfl ?_
      refine g_gS (fun hs => ?_)
      refine g_bRi (pc := 25) (c_V cl4 hs (p_X4_couldLeaveTogether hl x1 x2 x5 h3) y_X4_couldLeaveTogether tw1340 dX4_mostTogether_25 rfl (st := []) rfl (Nat.le_of_ble_eq_true rfl) (Nat.le_of_ble_eq_true rfl) (Nat.le_of_ble_eq_true rfl)) (fun x10 h5 => ?_)
      refine g_ifeq (pc := 28) (tgt := 36) dX4_mostTogether_28 rfl ?_ ?_
      · exact hk36 x4 h5
      · refine g_iload_n (pc := 31) dX4_mostTogether_31 3 rfl ?_
        refine g_bRi (pc := 32) (c_S (p_J6_bitCount_0f7a4 hl x5 h5) y_J6_bitCount_0f7a4 tw1339 dX4_mostTogether_32 rfl (st := []) rfl (Nat.le_of_ble_eq_true rfl) (Nat.le_of_ble_eq_true rfl) (Nat.le_of_ble_eq_true rfl)) (fun x11 h6 => ?_)
        refine g_istore_n (pc := 35) (lv' := [(2, .int x11), (0, .ref (e_z E + x1)), (1, .ref (e_z E + x2)), (3, .int x5)]) dX4_mostTogether_35 (Nat.le_of_ble_eq_true rfl) rfl ?_
        refine g_lv [1, 2, 0, 3] rfl ?_
        exact hk36 x11 h6
  · refine g_lv [2] rfl ?_
    exact hk42 x4 h2
theorem p_X4_mostTogether {l : Launch} {E : aE} (hl : l.stackTraces = false) (x1 : Nat) (x2 : Nat) (h0 : aH) : MO (fun (v : Int32) => .inl (some (.int v))) l E yX4_mostTogether (.code yX4_mostTogether cX4_mostTogether 4 (some .int)) 3 80 [.ref (e_z E + x1), .ref (e_z E + x2)] h0 (m_X4_mostTogether x1 x2 h0) := g_met hl (by decide +kernel) (Nat.le_of_ble_eq_true rfl) (b_X4_mostTogether hl _ _ x1 x2 h0)
theorem dX10_chainPerson_0 : decode cX10_chainPerson 0 = .ok (.iload_n 2, 1) := by decide +kernel
theorem dX10_chainPerson_1 : decode cX10_chainPerson 1 = .ok (.ifCond .le 16, 3) := by decide +kernel
theorem dX10_chainPerson_4 : decode cX10_chainPerson 4 = .ok (.aload_n 0, 1) := by decide +kernel
theorem dX10_chainPerson_5 : decode cX10_chainPerson 5 = .ok (.getfield 30, 3) := by decide +kernel
theorem dX10_chainPerson_8 : decode cX10_chainPerson 8 = .ok (.iload_n 1, 1) := by decide +kernel
theorem dX10_chainPerson_9 : decode cX10_chainPerson 9 = .ok (.iconst 3, 1) := by decide +kernel
theorem dX10_chainPerson_10 : decode cX10_chainPerson 10 = .ok (.imul, 1) := by decide +kernel
theorem dX10_chainPerson_11 : decode cX10_chainPerson 11 = .ok (.iload_n 2, 1) := by decide +kernel
theorem dX10_chainPerson_12 : decode cX10_chainPerson 12 = .ok (.iadd, 1) := by decide +kernel
theorem dX10_chainPerson_13 : decode cX10_chainPerson 13 = .ok (.iconst 1, 1) := by decide +kernel
theorem dX10_chainPerson_14 : decode cX10_chainPerson 14 = .ok (.isub, 1) := by decide +kernel
theorem dX10_chainPerson_15 : decode cX10_chainPerson 15 = .ok (.iaload, 1) := by decide +kernel
theorem dX10_chainPerson_16 : decode cX10_chainPerson 16 = .ok (.ireturn, 1) := by decide +kernel
theorem dX10_chainPerson_17 : decode cX10_chainPerson 17 = .ok (.aload_n 0, 1) := by decide +kernel
theorem dX10_chainPerson_18 : decode cX10_chainPerson 18 = .ok (.getfield 24, 3) := by decide +kernel
theorem dX10_chainPerson_21 : decode cX10_chainPerson 21 = .ok (.iload_n 1, 1) := by decide +kernel
theorem dX10_chainPerson_22 : decode cX10_chainPerson 22 = .ok (.bipush 8, 2) := by decide +kernel
theorem dX10_chainPerson_24 : decode cX10_chainPerson 24 = .ok (.imul, 1) := by decide +kernel
theorem dX10_chainPerson_25 : decode cX10_chainPerson 25 = .ok (.aload_n 0, 1) := by decide +kernel
theorem dX10_chainPerson_26 : decode cX10_chainPerson 26 = .ok (.iload_n 1, 1) := by decide +kernel
theorem dX10_chainPerson_27 : decode cX10_chainPerson 27 = .ok (.aload_n 0, 1) := by decide +kernel
theorem dX10_chainPerson_28 : decode cX10_chainPerson 28 = .ok (.getfield 56, 3) := by decide +kernel
theorem dX10_chainPerson_31 : decode cX10_chainPerson 31 = .ok (.invokevirtual 163, 3) := by decide +kernel
theorem dX10_chainPerson_34 : decode cX10_chainPerson 34 = .ok (.iadd, 1) := by decide +kernel
theorem dX10_chainPerson_35 : decode cX10_chainPerson 35 = .ok (.iaload, 1) := by decide +kernel
theorem dX10_chainPerson_36 : decode cX10_chainPerson 36 = .ok (.ireturn, 1) := by decide +kernel
abbrev M_X10_chainPerson : aM := (yX10_chainPerson.cls, cX10_chainPerson, 3, (some .int), [], yX10_chainPerson.name == "<init>")
abbrev J_X10_chainPerson (l : Launch) (E : aE) (n0 m0 : Nat) := GG (fun (v : Int32) => .inl (some (.int v))) l E M_X10_chainPerson 2 53 n0 m0
theorem b_X10_chainPerson {l : Launch} {E : aE} (hl : l.stackTraces = false) (n0 m0 : Nat) (x1 : Nat) (x2 : Int32) (x3 : Int32) (h0 : aH) : J_X10_chainPerson l E n0 m0 0 [(0, .ref (e_z E + x1)), (1, .int x2), (2, .int x3)] [] h0 (m_X10_chainPerson x1 x2 x3 h0) := by
  unfold m_X10_chainPerson
  refine g_iload_n (pc := 0) dX10_chainPerson_0 2 rfl ?_
  refine g_ifle (pc := 1) (tgt := 17) dX10_chainPerson_1 rfl ?_ ?_
  · refine g_aload_n (pc := 17) dX10_chainPerson_17 0 rfl ?_
    refine g_getr (pc := 18) cl10 (Nat.le_of_ble_eq_true rfl) fk363 (fun _ _ _ => rfl) dX10_chainPerson_18 (fun x4 => ?_)
    refine g_iload_n (pc := 21) dX10_chainPerson_21 1 rfl ?_
    refine g_bipush (pc := 22) dX10_chainPerson_22 cb_8 ?_
    refine g_imul (pc := 24) dX10_chainPerson_24 ?_
    refine g_aload_n (pc := 25) dX10_chainPerson_25 0 rfl ?_
    refine g_iload_n (pc := 26) dX10_chainPerson_26 1 rfl ?_
    refine g_aload_n (pc := 27) dX10_chainPerson_27 0 rfl ?_
    refine g_geti (pc := 28) cl10 (Nat.le_of_ble_eq_true rfl) fk349 (fun _ _ _ => rfl) dX10_chainPerson_28 (fun x5 => ?_)
    refine g_gS (fun hs => ?_)
    refine g_bRi (pc := 31) (c_V cl10 hs (p_X10_placeAt hl x1 x2 x5 h0) y_X10_placeAt tw1036 dX10_chainPerson_31 rfl (st := [.int (x2 * (8 : Int32)), .ref (e_z E + x4)]) rfl (Nat.le_of_ble_eq_true rfl) (Nat.le_of_ble_eq_true rfl) (Nat.le_of_ble_eq_true rfl)) (fun x6 h1 => ?_)
    refine g_iadd (pc := 34) dX10_chainPerson_34 ?_
    refine g_iald (pc := 35) dX10_chainPerson_35 (fun x7 => ?_)
    exact g_ret (pc := 36) rfl (isRet_i _) dX10_chainPerson_36 rfl
  · refine g_aload_n (pc := 4) dX10_chainPerson_4 0 rfl ?_
    refine g_getr (pc := 5) cl10 (Nat.le_of_ble_eq_true rfl) fk368 (fun _ _ _ => rfl) dX10_chainPerson_5 (fun x8 => ?_)
    refine g_iload_n (pc := 8) dX10_chainPerson_8 1 rfl ?_
    refine g_iconst (pc := 9) dX10_chainPerson_9 ci_3 ?_
    refine g_imul (pc := 10) dX10_chainPerson_10 ?_
    refine g_iload_n (pc := 11) dX10_chainPerson_11 2 rfl ?_
    refine g_iadd (pc := 12) dX10_chainPerson_12 ?_
    refine g_iconst (pc := 13) dX10_chainPerson_13 ci_1 ?_
    refine g_isub (pc := 14) dX10_chainPerson_14 ?_
    refine g_iald (pc := 15) dX10_chainPerson_15 (fun x9 => ?_)
    exact g_ret (pc := 16) rfl (isRet_i _) dX10_chainPerson_16 rfl
theorem p_X10_chainPerson {l : Launch} {E : aE} (hl : l.stackTraces = false) (x1 : Nat) (x2 : Int32) (x3 : Int32) (h0 : aH) : MO (fun (v : Int32) => .inl (some (.int v))) l E yX10_chainPerson (.code yX10_chainPerson cX10_chainPerson 3 (some .int)) 2 53 [.ref (e_z E + x1), .int x2, .int x3] h0 (m_X10_chainPerson x1 x2 x3 h0) := g_met hl (by decide +kernel) (Nat.le_of_ble_eq_true rfl) (b_X10_chainPerson hl _ _ x1 x2 x3 h0)
theorem dX11_pair_0 : decode cX11_pair 0 = .ok (.iload_n 0, 1) := by decide +kernel
theorem dX11_pair_1 : decode cX11_pair 1 = .ok (.bipush 12, 2) := by decide +kernel
theorem dX11_pair_3 : decode cX11_pair 3 = .ok (.imul, 1) := by decide +kernel
theorem dX11_pair_4 : decode cX11_pair 4 = .ok (.iload_n 1, 1) := by decide +kernel
theorem dX11_pair_5 : decode cX11_pair 5 = .ok (.iadd, 1) := by decide +kernel
theorem dX11_pair_6 : decode cX11_pair 6 = .ok (.ireturn, 1) := by decide +kernel
abbrev M_X11_pair : aM := (yX11_pair.cls, cX11_pair, 2, (some .int), [], yX11_pair.name == "<init>")
abbrev J_X11_pair (l : Launch) (E : aE) (n0 m0 : Nat) := GG (fun (v : Int32) => .inl (some (.int v))) l E M_X11_pair 0 0 n0 m0
theorem b_X11_pair {l : Launch} {E : aE} (hl : l.stackTraces = false) (n0 m0 : Nat) (x1 : Int32) (x2 : Int32) (h0 : aH) : J_X11_pair l E n0 m0 0 [(0, .int x1), (1, .int x2)] [] h0 (m_X11_pair x1 x2 h0) := by
  unfold m_X11_pair
  refine g_iload_n (pc := 0) dX11_pair_0 0 rfl ?_
  refine g_bipush (pc := 1) dX11_pair_1 cb_12 ?_
  refine g_imul (pc := 3) dX11_pair_3 ?_
  refine g_iload_n (pc := 4) dX11_pair_4 1 rfl ?_
  refine g_iadd (pc := 5) dX11_pair_5 ?_
  exact g_ret (pc := 6) rfl (isRet_i _) dX11_pair_6 rfl
theorem p_X11_pair {l : Launch} {E : aE} (hl : l.stackTraces = false) (x1 : Int32) (x2 : Int32) (h0 : aH) : MO (fun (v : Int32) => .inl (some (.int v))) l E yX11_pair (.code yX11_pair cX11_pair 2 (some .int)) 0 0 [.int x1, .int x2] h0 (m_X11_pair x1 x2 h0) := g_met hl (by decide +kernel) (Nat.le_of_ble_eq_true rfl) (b_X11_pair hl _ _ x1 x2 h0)
theorem dX10_shiftTrust_0 : decode cX10_shiftTrust 0 = .ok (.aload_n 0, 1) := by decide +kernel
theorem dX10_shiftTrust_1 : decode cX10_shiftTrust 1 = .ok (.getfield 21, 3) := by decide +kernel
theorem dX10_shiftTrust_4 : decode cX10_shiftTrust 4 = .ok (.iload_n 1, 1) := by decide +kernel
theorem dX10_shiftTrust_5 : decode cX10_shiftTrust 5 = .ok (.iload_n 2, 1) := by decide +kernel
theorem dX10_shiftTrust_6 : decode cX10_shiftTrust 6 = .ok (.invokestatic 151, 3) := by decide +kernel
theorem dX10_shiftTrust_9 : decode cX10_shiftTrust 9 = .ok (.iaload, 1) := by decide +kernel
theorem dX10_shiftTrust_10 : decode cX10_shiftTrust 10 = .ok (.iload_n 3, 1) := by decide +kernel
theorem dX10_shiftTrust_11 : decode cX10_shiftTrust 11 = .ok (.iadd, 1) := by decide +kernel
theorem dX10_shiftTrust_12 : decode cX10_shiftTrust 12 = .ok (.istore 4, 2) := by decide +kernel
theorem dX10_shiftTrust_14 : decode cX10_shiftTrust 14 = .ok (.iload 4, 2) := by decide +kernel
theorem dX10_shiftTrust_16 : decode cX10_shiftTrust 16 = .ok (.ifCond .lt 22, 3) := by decide +kernel
theorem dX10_shiftTrust_19 : decode cX10_shiftTrust 19 = .ok (.iload 4, 2) := by decide +kernel
theorem dX10_shiftTrust_21 : decode cX10_shiftTrust 21 = .ok (.bipush 9, 2) := by decide +kernel
theorem dX10_shiftTrust_23 : decode cX10_shiftTrust 23 = .ok (.if_icmp .gt 15, 3) := by decide +kernel
theorem dX10_shiftTrust_26 : decode cX10_shiftTrust 26 = .ok (.aload_n 0, 1) := by decide +kernel
theorem dX10_shiftTrust_27 : decode cX10_shiftTrust 27 = .ok (.getfield 21, 3) := by decide +kernel
theorem dX10_shiftTrust_30 : decode cX10_shiftTrust 30 = .ok (.iload_n 1, 1) := by decide +kernel
theorem dX10_shiftTrust_31 : decode cX10_shiftTrust 31 = .ok (.iload_n 2, 1) := by decide +kernel
theorem dX10_shiftTrust_32 : decode cX10_shiftTrust 32 = .ok (.invokestatic 151, 3) := by decide +kernel
theorem dX10_shiftTrust_35 : decode cX10_shiftTrust 35 = .ok (.iload 4, 2) := by decide +kernel
theorem dX10_shiftTrust_37 : decode cX10_shiftTrust 37 = .ok (.iastore, 1) := by decide +kernel
theorem dX10_shiftTrust_38 : decode cX10_shiftTrust 38 = .ok (.return_, 1) := by decide +kernel
abbrev M_X10_shiftTrust : aM := (yX10_shiftTrust.cls, cX10_shiftTrust, 5, none, [], yX10_shiftTrust.name == "<init>")
abbrev J_X10_shiftTrust (l : Launch) (E : aE) (n0 m0 : Nat) := GG (fun (_ : Unit) => .inl none) l E M_X10_shiftTrust 1 21 n0 m0
theorem b_X10_shiftTrust {l : Launch} {E : aE} (hl : l.stackTraces = false) (n0 m0 : Nat) (x1 : Nat) (x2 : Int32) (x3 : Int32) (x4 : Int32) (h0 : aH) : J_X10_shiftTrust l E n0 m0 0 [(0, .ref (e_z E + x1)), (1, .int x2), (2, .int x3), (3, .int x4)] [] h0 (m_X10_shiftTrust x1 x2 x3 x4 h0) := by
  unfold m_X10_shiftTrust
  refine g_aload_n (pc := 0) dX10_shiftTrust_0 0 rfl ?_
  refine g_getr (pc := 1) cl10 (Nat.le_of_ble_eq_true rfl) fk361 (fun _ _ _ => rfl) dX10_shiftTrust_1 (fun x5 => ?_)
  refine g_iload_n (pc := 4) dX10_shiftTrust_4 1 rfl ?_
  refine g_iload_n (pc := 5) dX10_shiftTrust_5 2 rfl ?_
  refine g_bRi (pc := 6) (c_SN (p_X11_pair hl x2 x3 h0) y_X11_pair tw1018 dX10_shiftTrust_6 rfl (st := [.ref (e_z E + x5)]) rfl (Nat.le_of_ble_eq_true rfl) (Nat.le_of_ble_eq_true rfl) (Nat.le_of_ble_eq_true rfl)) (fun x6 h1 => ?_)
  refine g_iald (pc := 9) dX10_shiftTrust_9 (fun x7 => ?_)
  refine g_iload_n (pc := 10) dX10_shiftTrust_10 3 rfl ?_
  refine g_iadd (pc := 11) dX10_shiftTrust_11 ?_
  refine g_topi (fun x8 => ?_)
  refine g_istore (pc := 12) (lv' := [(4, .int x8), (0, .ref (e_z E + x1)), (1, .int x2), (2, .int x3), (3, .int x4)]) dX10_shiftTrust_12 (Nat.le_of_ble_eq_true rfl) rfl ?_
  refine g_iload (pc := 14) dX10_shiftTrust_14 0 rfl ?_
  refine g_join (fun k => ∀ (h2 : aH), J_X10_shiftTrust l E n0 m0 38 [] [] h2 (k h2)) (fun h2 => ?_) (fun k38 hk38 => ?_)
  · exact g_ret (pc := 38) rfl isRet_v dX10_shiftTrust_38 rfl
  refine g_iflt (pc := 16) (tgt := 38) dX10_shiftTrust_16 rfl ?_ ?_
  · refine g_lv [] rfl ?_
    exact hk38 h1
  · refine g_iload (pc := 19) dX10_shiftTrust_19 0 rfl ?_
    refine g_bipush (pc := 21) dX10_shiftTrust_21 cb_9 ?_
    refine g_icmpgt (pc := 23) (tgt := 38) dX10_shiftTrust_23 rfl ?_ ?_
    · refine g_aload_n (pc := 26) dX10_shiftTrust_26 1 rfl ?_
      refine g_getr (pc := 27) cl10 (Nat.le_of_ble_eq_true rfl) fk361 (fun _ _ _ => rfl) dX10_shiftTrust_27 (fun x9 => ?_)
      refine g_iload_n (pc := 30) dX10_shiftTrust_30 2 rfl ?_
      refine g_iload_n (pc := 31) dX10_shiftTrust_31 3 rfl ?_
      refine g_bRi (pc := 32) (c_SN (p_X11_pair hl x2 x3 h1) y_X11_pair tw1018 dX10_shiftTrust_32 rfl (st := [.ref (e_z E + x9)]) rfl (Nat.le_of_ble_eq_true rfl) (Nat.le_of_ble_eq_true rfl) (Nat.le_of_ble_eq_true rfl)) (fun x10 h3 => ?_)
      refine g_iload (pc := 35) dX10_shiftTrust_35 0 rfl ?_
      refine g_iast (pc := 37) dX10_shiftTrust_37 (fun h4 => ?_)
      refine g_lv [] rfl ?_
      exact hk38 h4
    · refine g_lv [] rfl ?_
      exact hk38 h1
theorem p_X10_shiftTrust {l : Launch} {E : aE} (hl : l.stackTraces = false) (x1 : Nat) (x2 : Int32) (x3 : Int32) (x4 : Int32) (h0 : aH) : MO (fun (_ : Unit) => .inl none) l E yX10_shiftTrust (.code yX10_shiftTrust cX10_shiftTrust 5 none) 1 21 [.ref (e_z E + x1), .int x2, .int x3, .int x4] h0 (m_X10_shiftTrust x1 x2 x3 x4 h0) := g_met hl (by decide +kernel) (Nat.le_of_ble_eq_true rfl) (b_X10_shiftTrust hl _ _ x1 x2 x3 x4 h0)
theorem dX4_loseTrust_0 : decode cX4_loseTrust 0 = .ok (.iconst 0, 1) := by decide +kernel
theorem dX4_loseTrust_1 : decode cX4_loseTrust 1 = .ok (.istore_n 2, 1) := by decide +kernel
theorem dX4_loseTrust_2 : decode cX4_loseTrust 2 = .ok (.iload_n 2, 1) := by decide +kernel
theorem dX4_loseTrust_3 : decode cX4_loseTrust 3 = .ok (.aload_n 1, 1) := by decide +kernel
theorem dX4_loseTrust_4 : decode cX4_loseTrust 4 = .ok (.getfield 70, 3) := by decide +kernel
theorem dX4_loseTrust_7 : decode cX4_loseTrust 7 = .ok (.if_icmp .ge 76, 3) := by decide +kernel
theorem dX4_loseTrust_10 : decode cX4_loseTrust 10 = .ok (.aload_n 1, 1) := by decide +kernel
theorem dX4_loseTrust_11 : decode cX4_loseTrust 11 = .ok (.getfield 73, 3) := by decide +kernel
theorem dX4_loseTrust_14 : decode cX4_loseTrust 14 = .ok (.iload_n 2, 1) := by decide +kernel
theorem dX4_loseTrust_15 : decode cX4_loseTrust 15 = .ok (.iaload, 1) := by decide +kernel
theorem dX4_loseTrust_16 : decode cX4_loseTrust 16 = .ok (.istore_n 3, 1) := by decide +kernel
theorem dX4_loseTrust_17 : decode cX4_loseTrust 17 = .ok (.aload_n 0, 1) := by decide +kernel
theorem dX4_loseTrust_18 : decode cX4_loseTrust 18 = .ok (.getfield 33, 3) := by decide +kernel
theorem dX4_loseTrust_21 : decode cX4_loseTrust 21 = .ok (.getfield 205, 3) := by decide +kernel
theorem dX4_loseTrust_24 : decode cX4_loseTrust 24 = .ok (.iload_n 3, 1) := by decide +kernel
theorem dX4_loseTrust_25 : decode cX4_loseTrust 25 = .ok (.iaload, 1) := by decide +kernel
theorem dX4_loseTrust_26 : decode cX4_loseTrust 26 = .ok (.istore 4, 2) := by decide +kernel
theorem dX4_loseTrust_28 : decode cX4_loseTrust 28 = .ok (.iload 4, 2) := by decide +kernel
theorem dX4_loseTrust_30 : decode cX4_loseTrust 30 = .ok (.ifCond .le 47, 3) := by decide +kernel
theorem dX4_loseTrust_33 : decode cX4_loseTrust 33 = .ok (.aload_n 0, 1) := by decide +kernel
theorem dX4_loseTrust_34 : decode cX4_loseTrust 34 = .ok (.getfield 33, 3) := by decide +kernel
theorem dX4_loseTrust_37 : decode cX4_loseTrust 37 = .ok (.iload_n 3, 1) := by decide +kernel
theorem dX4_loseTrust_38 : decode cX4_loseTrust 38 = .ok (.iload 4, 2) := by decide +kernel
theorem dX4_loseTrust_40 : decode cX4_loseTrust 40 = .ok (.invokevirtual 208, 3) := by decide +kernel
theorem dX4_loseTrust_43 : decode cX4_loseTrust 43 = .ok (.istore 5, 2) := by decide +kernel
theorem dX4_loseTrust_45 : decode cX4_loseTrust 45 = .ok (.aload_n 0, 1) := by decide +kernel
theorem dX4_loseTrust_46 : decode cX4_loseTrust 46 = .ok (.getfield 9, 3) := by decide +kernel
theorem dX4_loseTrust_49 : decode cX4_loseTrust 49 = .ok (.iload 5, 2) := by decide +kernel
theorem dX4_loseTrust_51 : decode cX4_loseTrust 51 = .ok (.iaload, 1) := by decide +kernel
theorem dX4_loseTrust_52 : decode cX4_loseTrust 52 = .ok (.ifCond .eq 25, 3) := by decide +kernel
theorem dX4_loseTrust_55 : decode cX4_loseTrust 55 = .ok (.aload_n 0, 1) := by decide +kernel
theorem dX4_loseTrust_56 : decode cX4_loseTrust 56 = .ok (.getfield 33, 3) := by decide +kernel
theorem dX4_loseTrust_59 : decode cX4_loseTrust 59 = .ok (.aload_n 0, 1) := by decide +kernel
theorem dX4_loseTrust_60 : decode cX4_loseTrust 60 = .ok (.getfield 33, 3) := by decide +kernel
theorem dX4_loseTrust_63 : decode cX4_loseTrust 63 = .ok (.iload_n 3, 1) := by decide +kernel
theorem dX4_loseTrust_64 : decode cX4_loseTrust 64 = .ok (.iload 4, 2) := by decide +kernel
theorem dX4_loseTrust_66 : decode cX4_loseTrust 66 = .ok (.iconst 1, 1) := by decide +kernel
theorem dX4_loseTrust_67 : decode cX4_loseTrust 67 = .ok (.isub, 1) := by decide +kernel
theorem dX4_loseTrust_68 : decode cX4_loseTrust 68 = .ok (.invokevirtual 208, 3) := by decide +kernel
theorem dX4_loseTrust_71 : decode cX4_loseTrust 71 = .ok (.iload 5, 2) := by decide +kernel
theorem dX4_loseTrust_73 : decode cX4_loseTrust 73 = .ok (.iconst (-1), 1) := by decide +kernel
theorem dX4_loseTrust_74 : decode cX4_loseTrust 74 = .ok (.invokevirtual 211, 3) := by decide +kernel
theorem dX4_loseTrust_77 : decode cX4_loseTrust 77 = .ok (.iinc 2 1, 3) := by decide +kernel
theorem dX4_loseTrust_80 : decode cX4_loseTrust 80 = .ok (.goto (-78), 3) := by decide +kernel
theorem dX4_loseTrust_83 : decode cX4_loseTrust 83 = .ok (.return_, 1) := by decide +kernel
abbrev M_X4_loseTrust : aM := (yX4_loseTrust.cls, cX4_loseTrust, 6, none, [], yX4_loseTrust.name == "<init>")
abbrev J_X4_loseTrust (l : Launch) (E : aE) (n0 m0 : Nat) := GG (fun (_ : Unit) => .inl none) l E M_X4_loseTrust 3 75 n0 m0
theorem b_X4_loseTrust {l : Launch} {E : aE} (hl : l.stackTraces = false) (n0 m0 : Nat) (x1 : Nat) (x2 : Nat) (h0 : aH) : J_X4_loseTrust l E n0 m0 0 [(0, .ref (e_z E + x1)), (1, .ref (e_z E + x2))] [] h0 (m_X4_loseTrust x1 x2 h0) := by
  unfold m_X4_loseTrust
  refine g_iconst (pc := 0) dX4_loseTrust_0 ci_0 ?_
  refine g_istore_n (pc := 1) (lv' := [(2, .int (0 : Int32)), (0, .ref (e_z E + x1)), (1, .ref (e_z E + x2))]) dX4_loseTrust_1 (Nat.le_of_ble_eq_true rfl) rfl ?_
  refine g_join (fun k => ∀ (h1 : aH), J_X4_loseTrust l E n0 m0 83 [] [] h1 (k h1)) (fun h1 => ?_) (fun k83 hk83 => ?_)
  · exact g_ret (pc := 83) rfl isRet_v dX4_loseTrust_83 rfl
  refine g_lv [1, 2, 0] rfl ?_
  refine g_loop1 (F := (m_X4_loseTrust_L2 x1 x2 k83)) (fun x3 => [(0, .ref (e_z E + x1)), (1, .ref (e_z E + x2)), (2, .int x3)]) (fun r2 hr2 x3 h2 => ?_) _ _ _
  unfold m_X4_loseTrust_L2
  refine g_iload_n (pc := 2) dX4_loseTrust_2 2 rfl ?_
  refine g_aload_n (pc := 3) dX4_loseTrust_3 1 rfl ?_
  refine g_geti (pc := 4) cl3 (Nat.le_of_ble_eq_true rfl) fk205 (fun _ _ _ => rfl) dX4_loseTrust_4 (fun x4 => ?_)
  refine g_icmpge (pc := 7) (tgt := 83) dX4_loseTrust_7 rfl ?_ ?_
  · refine g_aload_n (pc := 10) dX4_loseTrust_10 1 rfl ?_
    refine g_getr (pc := 11) cl3 (Nat.le_of_ble_eq_true rfl) fk208 (fun _ _ _ => rfl) dX4_loseTrust_11 (fun x5 => ?_)
    refine g_iload_n (pc := 14) dX4_loseTrust_14 2 rfl ?_
    refine g_iald (pc := 15) dX4_loseTrust_15 (fun x6 => ?_)
    refine g_istore_n (pc := 16) (lv' := [(3, .int x6), (0, .ref (e_z E + x1)), (1, .ref (e_z E + x2)), (2, .int x3)]) dX4_loseTrust_16 (Nat.le_of_ble_eq_true rfl) rfl ?_
    refine g_aload_n (pc := 17) dX4_loseTrust_17 1 rfl ?_
    refine g_getr (pc := 18) cl4 (Nat.le_of_ble_eq_true rfl) fk421 (fun _ _ _ => rfl) dX4_loseTrust_18 (fun x7 => ?_)
    refine g_getr (pc := 21) cl10 (Nat.le_of_ble_eq_true rfl) fk366 (fun _ _ _ => rfl) dX4_loseTrust_21 (fun x8 => ?_)
    refine g_iload_n (pc := 24) dX4_loseTrust_24 0 rfl ?_
    refine g_iald (pc := 25) dX4_loseTrust_25 (fun x9 => ?_)
    refine g_istore (pc := 26) (lv' := [(4, .int x9), (3, .int x6), (0, .ref (e_z E + x1)), (1, .ref (e_z E + x2)), (2, .int x3)]) dX4_loseTrust_26 (Nat.le_of_ble_eq_true rfl) rfl ?_
    refine g_iload (pc := 28) dX4_loseTrust_28 0 rfl ?_
    refine g_join (fun k => ∀ (h3 : aH), J_X4_loseTrust l E n0 m0 77 [(0, .ref (e_z E + x1)), (1, .ref (e_z E + x2)), (2, .int x3)] [] h3 (k h3)) (fun h3 => ?_) (fun k77 hk77 => ?_)
    · refine g_iincN (pc := 77) dX4_loseTrust_77 2 rfl ci_1 (Nat.le_of_ble_eq_true rfl) (fun x10 => ?_)
      refine g_lvr (lv' := [(2, .int x10), (0, .ref (e_z E + x1)), (1, .ref (e_z E + x2))]) rfl ?_
      refine g_goto (pc := 80) (tgt := 2) dX4_loseTrust_80 rfl ?_
      refine g_lv [1, 2, 0] rfl ?_
      exact hr2 x10 h3
    refine g_ifle (pc := 30) (tgt := 77) dX4_loseTrust_30 rfl ?_ ?_
    · refine g_lv [2, 3, 4] rfl ?_
      exact hk77 h2
    · refine g_aload_n (pc := 33) dX4_loseTrust_33 2 rfl ?_
      refine g_getr (pc := 34) cl4 (Nat.le_of_ble_eq_true rfl) fk421 (fun _ _ _ => rfl) dX4_loseTrust_34 (fun x11 => ?_)
      refine g_iload_n (pc := 37) dX4_loseTrust_37 1 rfl ?_
      refine g_iload (pc := 38) dX4_loseTrust_38 0 rfl ?_
      refine g_gS (fun hs => ?_)
      refine g_bRi (pc := 40) (c_VN cl10 hs (p_X10_chainPerson hl x11 x6 x9 h2) y_X10_chainPerson tw1429 dX4_loseTrust_40 rfl (st := []) rfl (Nat.le_of_ble_eq_true rfl) (Nat.le_of_ble_eq_true rfl) (Nat.le_of_ble_eq_true rfl)) (fun x12 h4 => ?_)
      refine g_istore (pc := 43) (lv' := [(5, .int x12), (4, .int x9), (3, .int x6), (0, .ref (e_z E + x1)), (1, .ref (e_z E + x2)), (2, .int x3)]) dX4_loseTrust_43 (Nat.le_of_ble_eq_true rfl) rfl ?_
      refine g_aload_n (pc := 45) dX4_loseTrust_45 3 rfl ?_
      refine g_getr (pc := 46) cl4 (Nat.le_of_ble_eq_true rfl) fk423 (fun _ _ _ => rfl) dX4_loseTrust_46 (fun x13 => ?_)
      refine g_iload (pc := 49) dX4_loseTrust_49 0 rfl ?_
      refine g_iald (pc := 51) dX4_loseTrust_51 (fun x14 => ?_)
      refine g_ifeq (pc := 52) (tgt := 77) dX4_loseTrust_52 rfl ?_ ?_
      · refine g_lv [3, 4, 5] rfl ?_
        exact hk77 h4
      · refine g_aload_n (pc := 55) dX4_loseTrust_55 3 rfl ?_
        refine g_getr (pc := 56) cl4 (Nat.le_of_ble_eq_true rfl) fk421 (fun _ _ _ => rfl) dX4_loseTrust_56 (fun x15 => ?_)
        refine g_aload_n (pc := 59) dX4_loseTrust_59 3 rfl ?_
        refine g_getr (pc := 60) cl4 (Nat.le_of_ble_eq_true rfl) fk421 (fun _ _ _ => rfl) dX4_loseTrust_60 (fun x16 => ?_)
        refine g_iload_n (pc := 63) dX4_loseTrust_63 2 rfl ?_
        refine g_iload (pc := 64) dX4_loseTrust_64 1 rfl ?_
        refine g_iconst (pc := 66) dX4_loseTrust_66 ci_1 ?_
        refine g_isub (pc := 67) dX4_loseTrust_67 ?_
        refine g_gS (fun hs => ?_)
        refine g_bRi (pc := 68) (c_VN cl10 hs (p_X10_chainPerson hl x16 x6 (x9 - (1 : Int32)) h4) y_X10_chainPerson tw1429 dX4_loseTrust_68 rfl (st := [.ref (e_z E + x15)]) rfl (Nat.le_of_ble_eq_true rfl) (Nat.le_of_ble_eq_true rfl) (Nat.le_of_ble_eq_true rfl)) (fun x17 h5 => ?_)
        refine g_iload (pc := 71) dX4_loseTrust_71 0 rfl ?_
        refine g_iconst (pc := 73) dX4_loseTrust_73 ci_m1 ?_
        refine g_gS (fun hs => ?_)
        refine g_bRv (pc := 74) (c_VN cl10 hs (p_X10_shiftTrust hl x15 x17 x12 (-1 : Int32) h5) y_X10_shiftTrust tw1430 dX4_loseTrust_74 rfl (st := []) rfl (Nat.le_of_ble_eq_true rfl) (Nat.le_of_ble_eq_true rfl) (Nat.le_of_ble_eq_true rfl)) (fun _ h6 => ?_)
        refine g_lv [3, 4, 5] rfl ?_
        exact hk77 h6
  · refine g_lv [] rfl ?_
    exact hk83 h2
theorem p_X4_loseTrust {l : Launch} {E : aE} (hl : l.stackTraces = false) (x1 : Nat) (x2 : Nat) (h0 : aH) : MO (fun (_ : Unit) => .inl none) l E yX4_loseTrust (.code yX4_loseTrust cX4_loseTrust 6 none) 3 75 [.ref (e_z E + x1), .ref (e_z E + x2)] h0 (m_X4_loseTrust x1 x2 h0) := g_met hl (by decide +kernel) (Nat.le_of_ble_eq_true rfl) (b_X4_loseTrust hl _ _ x1 x2 h0)
theorem dX5_minutesBefore_0 : decode cX5_minutesBefore 0 = .ok (.iload_n 1, 1) := by decide +kernel
theorem dX5_minutesBefore_1 : decode cX5_minutesBefore 1 = .ok (.sipush 1440, 3) := by decide +kernel
theorem dX5_minutesBefore_4 : decode cX5_minutesBefore 4 = .ok (.irem, 1) := by decide +kernel
theorem dX5_minutesBefore_5 : decode cX5_minutesBefore 5 = .ok (.istore_n 2, 1) := by decide +kernel
theorem dX5_minutesBefore_6 : decode cX5_minutesBefore 6 = .ok (.iconst 0, 1) := by decide +kernel
theorem dX5_minutesBefore_7 : decode cX5_minutesBefore 7 = .ok (.iload_n 2, 1) := by decide +kernel
theorem dX5_minutesBefore_8 : decode cX5_minutesBefore 8 = .ok (.bipush 60, 2) := by decide +kernel
theorem dX5_minutesBefore_10 : decode cX5_minutesBefore 10 = .ok (.aload_n 0, 1) := by decide +kernel
theorem dX5_minutesBefore_11 : decode cX5_minutesBefore 11 = .ok (.getfield 9, 3) := by decide +kernel
theorem dX5_minutesBefore_14 : decode cX5_minutesBefore 14 = .ok (.imul, 1) := by decide +kernel
theorem dX5_minutesBefore_15 : decode cX5_minutesBefore 15 = .ok (.isub, 1) := by decide +kernel
theorem dX5_minutesBefore_16 : decode cX5_minutesBefore 16 = .ok (.invokestatic 28, 3) := by decide +kernel
theorem dX5_minutesBefore_19 : decode cX5_minutesBefore 19 = .ok (.istore_n 3, 1) := by decide +kernel
theorem dX5_minutesBefore_20 : decode cX5_minutesBefore 20 = .ok (.aload_n 0, 1) := by decide +kernel
theorem dX5_minutesBefore_21 : decode cX5_minutesBefore 21 = .ok (.getfield 9, 3) := by decide +kernel
theorem dX5_minutesBefore_24 : decode cX5_minutesBefore 24 = .ok (.aload_n 0, 1) := by decide +kernel
theorem dX5_minutesBefore_25 : decode cX5_minutesBefore 25 = .ok (.getfield 15, 3) := by decide +kernel
theorem dX5_minutesBefore_28 : decode cX5_minutesBefore 28 = .ok (.if_icmp .ge 33, 3) := by decide +kernel
theorem dX5_minutesBefore_31 : decode cX5_minutesBefore 31 = .ok (.bipush 60, 2) := by decide +kernel
theorem dX5_minutesBefore_33 : decode cX5_minutesBefore 33 = .ok (.aload_n 0, 1) := by decide +kernel
theorem dX5_minutesBefore_34 : decode cX5_minutesBefore 34 = .ok (.getfield 15, 3) := by decide +kernel
theorem dX5_minutesBefore_37 : decode cX5_minutesBefore 37 = .ok (.aload_n 0, 1) := by decide +kernel
theorem dX5_minutesBefore_38 : decode cX5_minutesBefore 38 = .ok (.getfield 9, 3) := by decide +kernel
theorem dX5_minutesBefore_41 : decode cX5_minutesBefore 41 = .ok (.isub, 1) := by decide +kernel
theorem dX5_minutesBefore_42 : decode cX5_minutesBefore 42 = .ok (.imul, 1) := by decide +kernel
theorem dX5_minutesBefore_43 : decode cX5_minutesBefore 43 = .ok (.istore 4, 2) := by decide +kernel
theorem dX5_minutesBefore_45 : decode cX5_minutesBefore 45 = .ok (.iload_n 1, 1) := by decide +kernel
theorem dX5_minutesBefore_46 : decode cX5_minutesBefore 46 = .ok (.sipush 1440, 3) := by decide +kernel
theorem dX5_minutesBefore_49 : decode cX5_minutesBefore 49 = .ok (.idiv, 1) := by decide +kernel
theorem dX5_minutesBefore_50 : decode cX5_minutesBefore 50 = .ok (.iload 4, 2) := by decide +kernel
theorem dX5_minutesBefore_52 : decode cX5_minutesBefore 52 = .ok (.imul, 1) := by decide +kernel
theorem dX5_minutesBefore_53 : decode cX5_minutesBefore 53 = .ok (.iload_n 3, 1) := by decide +kernel
theorem dX5_minutesBefore_54 : decode cX5_minutesBefore 54 = .ok (.iload 4, 2) := by decide +kernel
theorem dX5_minutesBefore_56 : decode cX5_minutesBefore 56 = .ok (.invokestatic 34, 3) := by decide +kernel
theorem dX5_minutesBefore_59 : decode cX5_minutesBefore 59 = .ok (.iadd, 1) := by decide +kernel
theorem dX5_minutesBefore_60 : decode cX5_minutesBefore 60 = .ok (.ireturn, 1) := by decide +kernel
theorem dX5_minutesBefore_61 : decode cX5_minutesBefore 61 = .ok (.bipush 60, 2) := by decide +kernel
theorem dX5_minutesBefore_63 : decode cX5_minutesBefore 63 = .ok (.bipush 24, 2) := by decide +kernel
theorem dX5_minutesBefore_65 : decode cX5_minutesBefore 65 = .ok (.aload_n 0, 1) := by decide +kernel
theorem dX5_minutesBefore_66 : decode cX5_minutesBefore 66 = .ok (.getfield 9, 3) := by decide +kernel
theorem dX5_minutesBefore_69 : decode cX5_minutesBefore 69 = .ok (.isub, 1) := by decide +kernel
theorem dX5_minutesBefore_70 : decode cX5_minutesBefore 70 = .ok (.aload_n 0, 1) := by decide +kernel
theorem dX5_minutesBefore_71 : decode cX5_minutesBefore 71 = .ok (.getfield 15, 3) := by decide +kernel
theorem dX5_minutesBefore_74 : decode cX5_minutesBefore 74 = .ok (.iadd, 1) := by decide +kernel
theorem dX5_minutesBefore_75 : decode cX5_minutesBefore 75 = .ok (.imul, 1) := by decide +kernel
theorem dX5_minutesBefore_76 : decode cX5_minutesBefore 76 = .ok (.istore 4, 2) := by decide +kernel
theorem dX5_minutesBefore_78 : decode cX5_minutesBefore 78 = .ok (.iload_n 1, 1) := by decide +kernel
theorem dX5_minutesBefore_79 : decode cX5_minutesBefore 79 = .ok (.sipush 1440, 3) := by decide +kernel
theorem dX5_minutesBefore_82 : decode cX5_minutesBefore 82 = .ok (.idiv, 1) := by decide +kernel
theorem dX5_minutesBefore_83 : decode cX5_minutesBefore 83 = .ok (.iload 4, 2) := by decide +kernel
theorem dX5_minutesBefore_85 : decode cX5_minutesBefore 85 = .ok (.imul, 1) := by decide +kernel
theorem dX5_minutesBefore_86 : decode cX5_minutesBefore 86 = .ok (.iload_n 2, 1) := by decide +kernel
theorem dX5_minutesBefore_87 : decode cX5_minutesBefore 87 = .ok (.bipush 60, 2) := by decide +kernel
theorem dX5_minutesBefore_89 : decode cX5_minutesBefore 89 = .ok (.aload_n 0, 1) := by decide +kernel
theorem dX5_minutesBefore_90 : decode cX5_minutesBefore 90 = .ok (.getfield 15, 3) := by decide +kernel
theorem dX5_minutesBefore_93 : decode cX5_minutesBefore 93 = .ok (.imul, 1) := by decide +kernel
theorem dX5_minutesBefore_94 : decode cX5_minutesBefore 94 = .ok (.invokestatic 34, 3) := by decide +kernel
theorem dX5_minutesBefore_97 : decode cX5_minutesBefore 97 = .ok (.iadd, 1) := by decide +kernel
theorem dX5_minutesBefore_98 : decode cX5_minutesBefore 98 = .ok (.iload_n 3, 1) := by decide +kernel
theorem dX5_minutesBefore_99 : decode cX5_minutesBefore 99 = .ok (.iadd, 1) := by decide +kernel
theorem dX5_minutesBefore_100 : decode cX5_minutesBefore 100 = .ok (.ireturn, 1) := by decide +kernel
abbrev M_X5_minutesBefore : aM := (yX5_minutesBefore.cls, cX5_minutesBefore, 5, (some .int), [], yX5_minutesBefore.name == "<init>")
abbrev J_X5_minutesBefore (l : Launch) (E : aE) (n0 m0 : Nat) := GG (fun (v : Int32) => .inl (some (.int v))) l E M_X5_minutesBefore 1 30 n0 m0
theorem b_X5_minutesBefore {l : Launch} {E : aE} (hl : l.stackTraces = false) (n0 m0 : Nat) (x1 : Nat) (x2 : Int32) (h0 : aH) : J_X5_minutesBefore l E n0 m0 0 [(0, .ref (e_z E + x1)), (1, .int x2)] [] h0 (m_X5_minutesBefore x1 x2 h0) := by
  unfold m_X5_minutesBefore
  refine g_iload_n (pc := 0) dX5_minutesBefore_0 1 rfl ?_
  refine g_sipush (pc := 1) dX5_minutesBefore_1 cs_1440 ?_
  refine g_irem (pc := 4) dX5_minutesBefore_4 (fun x3 => ?_)
  refine g_istore_n (pc := 5) (lv' := [(2, .int x3), (0, .ref (e_z E + x1)), (1, .int x2)]) dX5_minutesBefore_5 (Nat.le_of_ble_eq_true rfl) rfl ?_
  refine g_iconst (pc := 6) dX5_minutesBefore_6 ci_0 ?_
  refine g_iload_n (pc := 7) dX5_minutesBefore_7 0 rfl ?_
  refine g_bipush (pc := 8) dX5_minutesBefore_8 cb_60 ?_
  refine g_aload_n (pc := 10) dX5_minutesBefore_10 1 rfl ?_
  refine g_geti (pc := 11) cl5 (Nat.le_of_ble_eq_true rfl) fk92 (fun _ _ _ => rfl) dX5_minutesBefore_11 (fun x4 => ?_)
  refine g_imul (pc := 14) dX5_minutesBefore_14 ?_
  refine g_isub (pc := 15) dX5_minutesBefore_15 ?_
  refine g_mmax (pc := 16) tw916 tw852 tw19 tw853 (Nat.le_of_ble_eq_true rfl) (Nat.le_of_ble_eq_true rfl) dX5_minutesBefore_16 ?_
  refine g_topi (fun x5 => ?_)
  refine g_istore_n (pc := 19) (lv' := [(3, .int x5), (2, .int x3), (0, .ref (e_z E + x1)), (1, .int x2)]) dX5_minutesBefore_19 (Nat.le_of_ble_eq_true rfl) rfl ?_
  refine g_aload_n (pc := 20) dX5_minutesBefore_20 2 rfl ?_
  refine g_geti (pc := 21) cl5 (Nat.le_of_ble_eq_true rfl) fk92 (fun _ _ _ => rfl) dX5_minutesBefore_21 (fun x6 => ?_)
  refine g_aload_n (pc := 24) dX5_minutesBefore_24 2 rfl ?_
  refine g_geti (pc := 25) cl5 (Nat.le_of_ble_eq_true rfl) fk93 (fun _ _ _ => rfl) dX5_minutesBefore_25 (fun x7 => ?_)
  refine g_icmpge (pc := 28) (tgt := 61) dX5_minutesBefore_28 rfl ?_ ?_
  · refine g_bipush (pc := 31) dX5_minutesBefore_31 cb_60 ?_
    refine g_aload_n (pc := 33) dX5_minutesBefore_33 2 rfl ?_
    refine g_geti (pc := 34) cl5 (Nat.le_of_ble_eq_true rfl) fk93 (fun _ _ _ => rfl) dX5_minutesBefore_34 (fun x8 => ?_)
    refine g_aload_n (pc := 37) dX5_minutesBefore_37 2 rfl ?_
    refine g_geti (pc := 38) cl5 (Nat.le_of_ble_eq_true rfl) fk92 (fun _ _ _ => rfl) dX5_minutesBefore_38 (fun x9 => ?_)
    refine g_isub (pc := 41) dX5_minutesBefore_41 ?_
    refine g_imul (pc := 42) dX5_minutesBefore_42 ?_
    refine g_topi (fun x10 => ?_)
    refine g_istore (pc := 43) (lv' := [(4, .int x10), (3, .int x5), (2, .int x3), (0, .ref (e_z E + x1)), (1, .int x2)]) dX5_minutesBefore_43 (Nat.le_of_ble_eq_true rfl) rfl ?_
    refine g_iload_n (pc := 45) dX5_minutesBefore_45 4 rfl ?_
    refine g_sipush (pc := 46) dX5_minutesBefore_46 cs_1440 ?_
    refine g_idiv (pc := 49) dX5_minutesBefore_49 (fun x11 => ?_)
    refine g_iload (pc := 50) dX5_minutesBefore_50 0 rfl ?_
    refine g_imul (pc := 52) dX5_minutesBefore_52 ?_
    refine g_iload_n (pc := 53) dX5_minutesBefore_53 1 rfl ?_
    refine g_iload (pc := 54) dX5_minutesBefore_54 0 rfl ?_
    refine g_mmin (pc := 56) tw917 tw651 tw19 tw652 (Nat.le_of_ble_eq_true rfl) (Nat.le_of_ble_eq_true rfl) dX5_minutesBefore_56 ?_
    refine g_iadd (pc := 59) dX5_minutesBefore_59 ?_
    exact g_ret (pc := 60) rfl (isRet_i _) dX5_minutesBefore_60 rfl
  · refine g_bipush (pc := 61) dX5_minutesBefore_61 cb_60 ?_
    refine g_bipush (pc := 63) dX5_minutesBefore_63 cb_24 ?_
    refine g_aload_n (pc := 65) dX5_minutesBefore_65 2 rfl ?_
    refine g_geti (pc := 66) cl5 (Nat.le_of_ble_eq_true rfl) fk92 (fun _ _ _ => rfl) dX5_minutesBefore_66 (fun x12 => ?_)
    refine g_isub (pc := 69) dX5_minutesBefore_69 ?_
    refine g_aload_n (pc := 70) dX5_minutesBefore_70 2 rfl ?_
    refine g_geti (pc := 71) cl5 (Nat.le_of_ble_eq_true rfl) fk93 (fun _ _ _ => rfl) dX5_minutesBefore_71 (fun x13 => ?_)
    refine g_iadd (pc := 74) dX5_minutesBefore_74 ?_
    refine g_imul (pc := 75) dX5_minutesBefore_75 ?_
    refine g_topi (fun x14 => ?_)
    refine g_istore (pc := 76) (lv' := [(4, .int x14), (3, .int x5), (2, .int x3), (0, .ref (e_z E + x1)), (1, .int x2)]) dX5_minutesBefore_76 (Nat.le_of_ble_eq_true rfl) rfl ?_
    refine g_iload_n (pc := 78) dX5_minutesBefore_78 4 rfl ?_
    refine g_sipush (pc := 79) dX5_minutesBefore_79 cs_1440 ?_
    refine g_idiv (pc := 82) dX5_minutesBefore_82 (fun x15 => ?_)
    refine g_iload (pc := 83) dX5_minutesBefore_83 0 rfl ?_
    refine g_imul (pc := 85) dX5_minutesBefore_85 ?_
    refine g_iload_n (pc := 86) dX5_minutesBefore_86 2 rfl ?_
    refine g_bipush (pc := 87) dX5_minutesBefore_87 cb_60 ?_
    refine g_aload_n (pc := 89) dX5_minutesBefore_89 3 rfl ?_
    refine g_geti (pc := 90) cl5 (Nat.le_of_ble_eq_true rfl) fk93 (fun _ _ _ => rfl) dX5_minutesBefore_90 (fun x16 => ?_)
    refine g_imul (pc := 93) dX5_minutesBefore_93 ?_
    refine g_mmin (pc := 94) tw917 tw651 tw19 tw652 (Nat.le_of_ble_eq_true rfl) (Nat.le_of_ble_eq_true rfl) dX5_minutesBefore_94 ?_
    refine g_iadd (pc := 97) dX5_minutesBefore_97 ?_
    refine g_iload_n (pc := 98) dX5_minutesBefore_98 1 rfl ?_
    refine g_iadd (pc := 99) dX5_minutesBefore_99 ?_
    exact g_ret (pc := 100) rfl (isRet_i _) dX5_minutesBefore_100 rfl
theorem p_X5_minutesBefore {l : Launch} {E : aE} (hl : l.stackTraces = false) (x1 : Nat) (x2 : Int32) (h0 : aH) : MO (fun (v : Int32) => .inl (some (.int v))) l E yX5_minutesBefore (.code yX5_minutesBefore cX5_minutesBefore 5 (some .int)) 1 30 [.ref (e_z E + x1), .int x2] h0 (m_X5_minutesBefore x1 x2 h0) := g_met hl (by decide +kernel) (Nat.le_of_ble_eq_true rfl) (b_X5_minutesBefore hl _ _ x1 x2 h0)
theorem dX5_minutesIn_0 : decode cX5_minutesIn 0 = .ok (.aload_n 0, 1) := by decide +kernel
theorem dX5_minutesIn_1 : decode cX5_minutesIn 1 = .ok (.iload_n 2, 1) := by decide +kernel
theorem dX5_minutesIn_2 : decode cX5_minutesIn 2 = .ok (.invokevirtual 24, 3) := by decide +kernel
theorem dX5_minutesIn_5 : decode cX5_minutesIn 5 = .ok (.aload_n 0, 1) := by decide +kernel
theorem dX5_minutesIn_6 : decode cX5_minutesIn 6 = .ok (.iload_n 1, 1) := by decide +kernel
theorem dX5_minutesIn_7 : decode cX5_minutesIn 7 = .ok (.invokevirtual 24, 3) := by decide +kernel
theorem dX5_minutesIn_10 : decode cX5_minutesIn 10 = .ok (.isub, 1) := by decide +kernel
theorem dX5_minutesIn_11 : decode cX5_minutesIn 11 = .ok (.ireturn, 1) := by decide +kernel
abbrev M_X5_minutesIn : aM := (yX5_minutesIn.cls, cX5_minutesIn, 3, (some .int), [], yX5_minutesIn.name == "<init>")
abbrev J_X5_minutesIn (l : Launch) (E : aE) (n0 m0 : Nat) := GG (fun (v : Int32) => .inl (some (.int v))) l E M_X5_minutesIn 2 54 n0 m0
theorem b_X5_minutesIn {l : Launch} {E : aE} (hl : l.stackTraces = false) (n0 m0 : Nat) (x1 : Nat) (x2 : Int32) (x3 : Int32) (h0 : aH) : J_X5_minutesIn l E n0 m0 0 [(0, .ref (e_z E + x1)), (1, .int x2), (2, .int x3)] [] h0 (m_X5_minutesIn x1 x2 x3 h0) := by
  unfold m_X5_minutesIn
  refine g_aload_n (pc := 0) dX5_minutesIn_0 0 rfl ?_
  refine g_iload_n (pc := 1) dX5_minutesIn_1 2 rfl ?_
  refine g_gS (fun hs => ?_)
  refine g_bRi (pc := 2) (c_V cl5 hs (p_X5_minutesBefore hl x1 x3 h0) y_X5_minutesBefore tw912 dX5_minutesIn_2 rfl (st := []) rfl (Nat.le_of_ble_eq_true rfl) (Nat.le_of_ble_eq_true rfl) (Nat.le_of_ble_eq_true rfl)) (fun x4 h1 => ?_)
  refine g_aload_n (pc := 5) dX5_minutesIn_5 0 rfl ?_
  refine g_iload_n (pc := 6) dX5_minutesIn_6 1 rfl ?_
  refine g_gS (fun hs => ?_)
  refine g_bRi (pc := 7) (c_V cl5 hs (p_X5_minutesBefore hl x1 x2 h1) y_X5_minutesBefore tw912 dX5_minutesIn_7 rfl (st := [.int x4]) rfl (Nat.le_of_ble_eq_true rfl) (Nat.le_of_ble_eq_true rfl) (Nat.le_of_ble_eq_true rfl)) (fun x5 h2 => ?_)
  refine g_isub (pc := 10) dX5_minutesIn_10 ?_
  exact g_ret (pc := 11) rfl (isRet_i _) dX5_minutesIn_11 rfl
theorem p_X5_minutesIn {l : Launch} {E : aE} (hl : l.stackTraces = false) (x1 : Nat) (x2 : Int32) (x3 : Int32) (h0 : aH) : MO (fun (v : Int32) => .inl (some (.int v))) l E yX5_minutesIn (.code yX5_minutesIn cX5_minutesIn 3 (some .int)) 2 54 [.ref (e_z E + x1), .int x2, .int x3] h0 (m_X5_minutesIn x1 x2 x3 h0) := g_met hl (by decide +kernel) (Nat.le_of_ble_eq_true rfl) (b_X5_minutesIn hl _ _ x1 x2 x3 h0)
theorem dX10_sendAway_0 : decode cX10_sendAway 0 = .ok (.aload_n 0, 1) := by decide +kernel
theorem dX10_sendAway_1 : decode cX10_sendAway 1 = .ok (.getfield 15, 3) := by decide +kernel
theorem dX10_sendAway_4 : decode cX10_sendAway 4 = .ok (.iload_n 1, 1) := by decide +kernel
theorem dX10_sendAway_5 : decode cX10_sendAway 5 = .ok (.iload_n 2, 1) := by decide +kernel
theorem dX10_sendAway_6 : decode cX10_sendAway 6 = .ok (.iastore, 1) := by decide +kernel
theorem dX10_sendAway_7 : decode cX10_sendAway 7 = .ok (.iload_n 2, 1) := by decide +kernel
theorem dX10_sendAway_8 : decode cX10_sendAway 8 = .ok (.aload_n 0, 1) := by decide +kernel
theorem dX10_sendAway_9 : decode cX10_sendAway 9 = .ok (.getfield 56, 3) := by decide +kernel
theorem dX10_sendAway_12 : decode cX10_sendAway 12 = .ok (.isub, 1) := by decide +kernel
theorem dX10_sendAway_13 : decode cX10_sendAway 13 = .ok (.aload_n 0, 1) := by decide +kernel
theorem dX10_sendAway_14 : decode cX10_sendAway 14 = .ok (.getfield 52, 3) := by decide +kernel
theorem dX10_sendAway_17 : decode cX10_sendAway 17 = .ok (.getfield 111, 3) := by decide +kernel
theorem dX10_sendAway_20 : decode cX10_sendAway 20 = .ok (.aload_n 0, 1) := by decide +kernel
theorem dX10_sendAway_21 : decode cX10_sendAway 21 = .ok (.getfield 56, 3) := by decide +kernel
theorem dX10_sendAway_24 : decode cX10_sendAway 24 = .ok (.iload_n 2, 1) := by decide +kernel
theorem dX10_sendAway_25 : decode cX10_sendAway 25 = .ok (.invokevirtual 123, 3) := by decide +kernel
theorem dX10_sendAway_28 : decode cX10_sendAway 28 = .ok (.iadd, 1) := by decide +kernel
theorem dX10_sendAway_29 : decode cX10_sendAway 29 = .ok (.istore_n 3, 1) := by decide +kernel
theorem dX10_sendAway_30 : decode cX10_sendAway 30 = .ok (.aload_n 0, 1) := by decide +kernel
theorem dX10_sendAway_31 : decode cX10_sendAway 31 = .ok (.getfield 18, 3) := by decide +kernel
theorem dX10_sendAway_34 : decode cX10_sendAway 34 = .ok (.iload_n 1, 1) := by decide +kernel
theorem dX10_sendAway_35 : decode cX10_sendAway 35 = .ok (.dup2, 1) := by decide +kernel
theorem dX10_sendAway_36 : decode cX10_sendAway 36 = .ok (.iaload, 1) := by decide +kernel
theorem dX10_sendAway_37 : decode cX10_sendAway 37 = .ok (.iload_n 3, 1) := by decide +kernel
theorem dX10_sendAway_38 : decode cX10_sendAway 38 = .ok (.iadd, 1) := by decide +kernel
theorem dX10_sendAway_39 : decode cX10_sendAway 39 = .ok (.iastore, 1) := by decide +kernel
theorem dX10_sendAway_40 : decode cX10_sendAway 40 = .ok (.iload_n 3, 1) := by decide +kernel
theorem dX10_sendAway_41 : decode cX10_sendAway 41 = .ok (.ireturn, 1) := by decide +kernel
abbrev M_X10_sendAway : aM := (yX10_sendAway.cls, cX10_sendAway, 4, (some .int), [], yX10_sendAway.name == "<init>")
abbrev J_X10_sendAway (l : Launch) (E : aE) (n0 m0 : Nat) := GG (fun (v : Int32) => .inl (some (.int v))) l E M_X10_sendAway 3 76 n0 m0
theorem b_X10_sendAway {l : Launch} {E : aE} (hl : l.stackTraces = false) (n0 m0 : Nat) (x1 : Nat) (x2 : Int32) (x3 : Int32) (h0 : aH) : J_X10_sendAway l E n0 m0 0 [(0, .ref (e_z E + x1)), (1, .int x2), (2, .int x3)] [] h0 (m_X10_sendAway x1 x2 x3 h0) := by
  unfold m_X10_sendAway
  refine g_aload_n (pc := 0) dX10_sendAway_0 0 rfl ?_
  refine g_getr (pc := 1) cl10 (Nat.le_of_ble_eq_true rfl) fk354 (fun _ _ _ => rfl) dX10_sendAway_1 (fun x4 => ?_)
  refine g_iload_n (pc := 4) dX10_sendAway_4 1 rfl ?_
  refine g_iload_n (pc := 5) dX10_sendAway_5 2 rfl ?_
  refine g_iast (pc := 6) dX10_sendAway_6 (fun h1 => ?_)
  refine g_iload_n (pc := 7) dX10_sendAway_7 2 rfl ?_
  refine g_aload_n (pc := 8) dX10_sendAway_8 0 rfl ?_
  refine g_geti (pc := 9) cl10 (Nat.le_of_ble_eq_true rfl) fk349 (fun _ _ _ => rfl) dX10_sendAway_9 (fun x5 => ?_)
  refine g_isub (pc := 12) dX10_sendAway_12 ?_
  refine g_aload_n (pc := 13) dX10_sendAway_13 0 rfl ?_
  refine g_getr (pc := 14) cl10 (Nat.le_of_ble_eq_true rfl) fk348 (fun _ _ _ => rfl) dX10_sendAway_14 (fun x6 => ?_)
  refine g_getr (pc := 17) cl8 (Nat.le_of_ble_eq_true rfl) fk236 (fun _ _ _ => rfl) dX10_sendAway_17 (fun x7 => ?_)
  refine g_aload_n (pc := 20) dX10_sendAway_20 0 rfl ?_
  refine g_geti (pc := 21) cl10 (Nat.le_of_ble_eq_true rfl) fk349 (fun _ _ _ => rfl) dX10_sendAway_21 (fun x8 => ?_)
  refine g_iload_n (pc := 24) dX10_sendAway_24 2 rfl ?_
  refine g_gS (fun hs => ?_)
  refine g_bRi (pc := 25) (c_VN cl5 hs (p_X5_minutesIn hl x7 x8 x3 h1) y_X5_minutesIn tw954 dX10_sendAway_25 rfl (st := [.int (x3 - x5)]) rfl (Nat.le_of_ble_eq_true rfl) (Nat.le_of_ble_eq_true rfl) (Nat.le_of_ble_eq_true rfl)) (fun x9 h2 => ?_)
  refine g_iadd (pc := 28) dX10_sendAway_28 ?_
  refine g_topi (fun x10 => ?_)
  refine g_istore_n (pc := 29) (lv' := [(3, .int x10), (0, .ref (e_z E + x1)), (1, .int x2), (2, .int x3)]) dX10_sendAway_29 (Nat.le_of_ble_eq_true rfl) rfl ?_
  refine g_aload_n (pc := 30) dX10_sendAway_30 1 rfl ?_
  refine g_getr (pc := 31) cl10 (Nat.le_of_ble_eq_true rfl) fk356 (fun _ _ _ => rfl) dX10_sendAway_31 (fun x11 => ?_)
  refine g_iload_n (pc := 34) dX10_sendAway_34 2 rfl ?_
  refine g_dup2 (pc := 35) rfl rfl dX10_sendAway_35 ?_
  refine g_iald (pc := 36) dX10_sendAway_36 (fun x12 => ?_)
  refine g_iload_n (pc := 37) dX10_sendAway_37 0 rfl ?_
  refine g_iadd (pc := 38) dX10_sendAway_38 ?_
  refine g_iast (pc := 39) dX10_sendAway_39 (fun h3 => ?_)
  refine g_iload_n (pc := 40) dX10_sendAway_40 0 rfl ?_
  exact g_ret (pc := 41) rfl (isRet_i _) dX10_sendAway_41 rfl
theorem p_X10_sendAway {l : Launch} {E : aE} (hl : l.stackTraces = false) (x1 : Nat) (x2 : Int32) (x3 : Int32) (h0 : aH) : MO (fun (v : Int32) => .inl (some (.int v))) l E yX10_sendAway (.code yX10_sendAway cX10_sendAway 4 (some .int)) 3 76 [.ref (e_z E + x1), .int x2, .int x3] h0 (m_X10_sendAway x1 x2 x3 h0) := g_met hl (by decide +kernel) (Nat.le_of_ble_eq_true rfl) (b_X10_sendAway hl _ _ x1 x2 x3 h0)
theorem dX4_sendEngine_0 : decode cX4_sendEngine 0 = .ok (.aload_n 1, 1) := by decide +kernel
theorem dX4_sendEngine_1 : decode cX4_sendEngine 1 = .ok (.getfield 60, 3) := by decide +kernel
theorem dX4_sendEngine_4 : decode cX4_sendEngine 4 = .ok (.iload_n 2, 1) := by decide +kernel
theorem dX4_sendEngine_5 : decode cX4_sendEngine 5 = .ok (.iaload, 1) := by decide +kernel
theorem dX4_sendEngine_6 : decode cX4_sendEngine 6 = .ok (.istore_n 3, 1) := by decide +kernel
theorem dX4_sendEngine_7 : decode cX4_sendEngine 7 = .ok (.aload_n 0, 1) := by decide +kernel
theorem dX4_sendEngine_8 : decode cX4_sendEngine 8 = .ok (.getfield 33, 3) := by decide +kernel
theorem dX4_sendEngine_11 : decode cX4_sendEngine 11 = .ok (.getfield 76, 3) := by decide +kernel
theorem dX4_sendEngine_14 : decode cX4_sendEngine 14 = .ok (.aload_n 0, 1) := by decide +kernel
theorem dX4_sendEngine_15 : decode cX4_sendEngine 15 = .ok (.getfield 27, 3) := by decide +kernel
theorem dX4_sendEngine_18 : decode cX4_sendEngine 18 = .ok (.iload_n 2, 1) := by decide +kernel
theorem dX4_sendEngine_19 : decode cX4_sendEngine 19 = .ok (.iaload, 1) := by decide +kernel
theorem dX4_sendEngine_20 : decode cX4_sendEngine 20 = .ok (.iadd, 1) := by decide +kernel
theorem dX4_sendEngine_21 : decode cX4_sendEngine 21 = .ok (.istore 4, 2) := by decide +kernel
theorem dX4_sendEngine_23 : decode cX4_sendEngine 23 = .ok (.iload 4, 2) := by decide +kernel
theorem dX4_sendEngine_25 : decode cX4_sendEngine 25 = .ok (.iconst 2, 1) := by decide +kernel
theorem dX4_sendEngine_26 : decode cX4_sendEngine 26 = .ok (.aload_n 0, 1) := by decide +kernel
theorem dX4_sendEngine_27 : decode cX4_sendEngine 27 = .ok (.getfield 43, 3) := by decide +kernel
theorem dX4_sendEngine_30 : decode cX4_sendEngine 30 = .ok (.getfield 112, 3) := by decide +kernel
theorem dX4_sendEngine_33 : decode cX4_sendEngine 33 = .ok (.iload_n 3, 1) := by decide +kernel
theorem dX4_sendEngine_34 : decode cX4_sendEngine 34 = .ok (.aaload, 1) := by decide +kernel
theorem dX4_sendEngine_35 : decode cX4_sendEngine 35 = .ok (.getfield 215, 3) := by decide +kernel
theorem dX4_sendEngine_38 : decode cX4_sendEngine 38 = .ok (.imul, 1) := by decide +kernel
theorem dX4_sendEngine_39 : decode cX4_sendEngine 39 = .ok (.iadd, 1) := by decide +kernel
theorem dX4_sendEngine_40 : decode cX4_sendEngine 40 = .ok (.aload_n 1, 1) := by decide +kernel
theorem dX4_sendEngine_41 : decode cX4_sendEngine 41 = .ok (.getfield 218, 3) := by decide +kernel
theorem dX4_sendEngine_44 : decode cX4_sendEngine 44 = .ok (.iadd, 1) := by decide +kernel
theorem dX4_sendEngine_45 : decode cX4_sendEngine 45 = .ok (.istore 5, 2) := by decide +kernel
theorem dX4_sendEngine_47 : decode cX4_sendEngine 47 = .ok (.aload_n 0, 1) := by decide +kernel
theorem dX4_sendEngine_48 : decode cX4_sendEngine 48 = .ok (.getfield 33, 3) := by decide +kernel
theorem dX4_sendEngine_51 : decode cX4_sendEngine 51 = .ok (.getfield 221, 3) := by decide +kernel
theorem dX4_sendEngine_54 : decode cX4_sendEngine 54 = .ok (.iload_n 3, 1) := by decide +kernel
theorem dX4_sendEngine_55 : decode cX4_sendEngine 55 = .ok (.iload 5, 2) := by decide +kernel
theorem dX4_sendEngine_57 : decode cX4_sendEngine 57 = .ok (.iastore, 1) := by decide +kernel
theorem dX4_sendEngine_58 : decode cX4_sendEngine 58 = .ok (.aload_n 0, 1) := by decide +kernel
theorem dX4_sendEngine_59 : decode cX4_sendEngine 59 = .ok (.getfield 33, 3) := by decide +kernel
theorem dX4_sendEngine_62 : decode cX4_sendEngine 62 = .ok (.getfield 224, 3) := by decide +kernel
theorem dX4_sendEngine_65 : decode cX4_sendEngine 65 = .ok (.iload_n 3, 1) := by decide +kernel
theorem dX4_sendEngine_66 : decode cX4_sendEngine 66 = .ok (.aload_n 0, 1) := by decide +kernel
theorem dX4_sendEngine_67 : decode cX4_sendEngine 67 = .ok (.getfield 24, 3) := by decide +kernel
theorem dX4_sendEngine_70 : decode cX4_sendEngine 70 = .ok (.iload_n 2, 1) := by decide +kernel
theorem dX4_sendEngine_71 : decode cX4_sendEngine 71 = .ok (.iaload, 1) := by decide +kernel
theorem dX4_sendEngine_72 : decode cX4_sendEngine 72 = .ok (.iastore, 1) := by decide +kernel
theorem dX4_sendEngine_73 : decode cX4_sendEngine 73 = .ok (.aload_n 0, 1) := by decide +kernel
theorem dX4_sendEngine_74 : decode cX4_sendEngine 74 = .ok (.getfield 33, 3) := by decide +kernel
theorem dX4_sendEngine_77 : decode cX4_sendEngine 77 = .ok (.getfield 175, 3) := by decide +kernel
theorem dX4_sendEngine_80 : decode cX4_sendEngine 80 = .ok (.iload_n 3, 1) := by decide +kernel
theorem dX4_sendEngine_81 : decode cX4_sendEngine 81 = .ok (.iload 4, 2) := by decide +kernel
theorem dX4_sendEngine_83 : decode cX4_sendEngine 83 = .ok (.aload_n 0, 1) := by decide +kernel
theorem dX4_sendEngine_84 : decode cX4_sendEngine 84 = .ok (.getfield 24, 3) := by decide +kernel
theorem dX4_sendEngine_87 : decode cX4_sendEngine 87 = .ok (.iload_n 2, 1) := by decide +kernel
theorem dX4_sendEngine_88 : decode cX4_sendEngine 88 = .ok (.iaload, 1) := by decide +kernel
theorem dX4_sendEngine_89 : decode cX4_sendEngine 89 = .ok (.invokevirtual 225, 3) := by decide +kernel
theorem dX4_sendEngine_92 : decode cX4_sendEngine 92 = .ok (.iconst 0, 1) := by decide +kernel
theorem dX4_sendEngine_93 : decode cX4_sendEngine 93 = .ok (.istore 6, 2) := by decide +kernel
theorem dX4_sendEngine_95 : decode cX4_sendEngine 95 = .ok (.iconst 0, 1) := by decide +kernel
theorem dX4_sendEngine_96 : decode cX4_sendEngine 96 = .ok (.istore 7, 2) := by decide +kernel
theorem dX4_sendEngine_98 : decode cX4_sendEngine 98 = .ok (.iload 7, 2) := by decide +kernel
theorem dX4_sendEngine_100 : decode cX4_sendEngine 100 = .ok (.aload_n 0, 1) := by decide +kernel
theorem dX4_sendEngine_101 : decode cX4_sendEngine 101 = .ok (.getfield 43, 3) := by decide +kernel
theorem dX4_sendEngine_104 : decode cX4_sendEngine 104 = .ok (.getfield 83, 3) := by decide +kernel
theorem dX4_sendEngine_107 : decode cX4_sendEngine 107 = .ok (.if_icmp .ge 39, 3) := by decide +kernel
theorem dX4_sendEngine_110 : decode cX4_sendEngine 110 = .ok (.aload_n 0, 1) := by decide +kernel
theorem dX4_sendEngine_111 : decode cX4_sendEngine 111 = .ok (.getfield 24, 3) := by decide +kernel
theorem dX4_sendEngine_114 : decode cX4_sendEngine 114 = .ok (.iload_n 2, 1) := by decide +kernel
theorem dX4_sendEngine_115 : decode cX4_sendEngine 115 = .ok (.iaload, 1) := by decide +kernel
theorem dX4_sendEngine_116 : decode cX4_sendEngine 116 = .ok (.iload 7, 2) := by decide +kernel
theorem dX4_sendEngine_118 : decode cX4_sendEngine 118 = .ok (.invokestatic 92, 3) := by decide +kernel
theorem dX4_sendEngine_121 : decode cX4_sendEngine 121 = .ok (.ifCond .eq 19, 3) := by decide +kernel
theorem dX4_sendEngine_124 : decode cX4_sendEngine 124 = .ok (.iload 6, 2) := by decide +kernel
theorem dX4_sendEngine_126 : decode cX4_sendEngine 126 = .ok (.aload_n 0, 1) := by decide +kernel
theorem dX4_sendEngine_127 : decode cX4_sendEngine 127 = .ok (.getfield 33, 3) := by decide +kernel
theorem dX4_sendEngine_130 : decode cX4_sendEngine 130 = .ok (.iload 7, 2) := by decide +kernel
theorem dX4_sendEngine_132 : decode cX4_sendEngine 132 = .ok (.iload 5, 2) := by decide +kernel
theorem dX4_sendEngine_134 : decode cX4_sendEngine 134 = .ok (.invokevirtual 198, 3) := by decide +kernel
theorem dX4_sendEngine_137 : decode cX4_sendEngine 137 = .ok (.iadd, 1) := by decide +kernel
theorem dX4_sendEngine_138 : decode cX4_sendEngine 138 = .ok (.istore 6, 2) := by decide +kernel
theorem dX4_sendEngine_140 : decode cX4_sendEngine 140 = .ok (.iinc 7 1, 3) := by decide +kernel
theorem dX4_sendEngine_143 : decode cX4_sendEngine 143 = .ok (.goto (-45), 3) := by decide +kernel
theorem dX4_sendEngine_146 : decode cX4_sendEngine 146 = .ok (.iload 6, 2) := by decide +kernel
theorem dX4_sendEngine_148 : decode cX4_sendEngine 148 = .ok (.ireturn, 1) := by decide +kernel
abbrev M_X4_sendEngine : aM := (yX4_sendEngine.cls, cX4_sendEngine, 8, (some .int), [], yX4_sendEngine.name == "<init>")
abbrev J_X4_sendEngine (l : Launch) (E : aE) (n0 m0 : Nat) := GG (fun (v : Int32) => .inl (some (.int v))) l E M_X4_sendEngine 4 99 n0 m0
theorem b_X4_sendEngine {l : Launch} {E : aE} (hl : l.stackTraces = false) (n0 m0 : Nat) (x1 : Nat) (x2 : Nat) (x3 : Int32) (h0 : aH) : J_X4_sendEngine l E n0 m0 0 [(0, .ref (e_z E + x1)), (1, .ref (e_z E + x2)), (2, .int x3)] [] h0 (m_X4_sendEngine x1 x2 x3 h0) := by
  unfold m_X4_sendEngine
  refine g_aload_n (pc := 0) dX4_sendEngine_0 1 rfl ?_
  refine g_getr (pc := 1) cl3 (Nat.le_of_ble_eq_true rfl) fk214 (fun _ _ _ => rfl) dX4_sendEngine_1 (fun x4 => ?_)
  refine g_iload_n (pc := 4) dX4_sendEngine_4 2 rfl ?_
  refine g_iald (pc := 5) dX4_sendEngine_5 (fun x5 => ?_)
  refine g_istore_n (pc := 6) (lv' := [(3, .int x5), (0, .ref (e_z E + x1)), (1, .ref (e_z E + x2)), (2, .int x3)]) dX4_sendEngine_6 (Nat.le_of_ble_eq_true rfl) rfl ?_
  refine g_aload_n (pc := 7) dX4_sendEngine_7 1 rfl ?_
  refine g_getr (pc := 8) cl4 (Nat.le_of_ble_eq_true rfl) fk421 (fun _ _ _ => rfl) dX4_sendEngine_8 (fun x6 => ?_)
  refine g_geti (pc := 11) cl10 (Nat.le_of_ble_eq_true rfl) fk350 (fun _ _ _ => rfl) dX4_sendEngine_11 (fun x7 => ?_)
  refine g_aload_n (pc := 14) dX4_sendEngine_14 1 rfl ?_
  refine g_getr (pc := 15) cl4 (Nat.le_of_ble_eq_true rfl) fk434 (fun _ _ _ => rfl) dX4_sendEngine_15 (fun x8 => ?_)
  refine g_iload_n (pc := 18) dX4_sendEngine_18 3 rfl ?_
  refine g_iald (pc := 19) dX4_sendEngine_19 (fun x9 => ?_)
  refine g_iadd (pc := 20) dX4_sendEngine_20 ?_
  refine g_topi (fun x10 => ?_)
  refine g_istore (pc := 21) (lv' := [(4, .int x10), (3, .int x5), (0, .ref (e_z E + x1)), (1, .ref (e_z E + x2)), (2, .int x3)]) dX4_sendEngine_21 (Nat.le_of_ble_eq_true rfl) rfl ?_
  refine g_iload (pc := 23) dX4_sendEngine_23 0 rfl ?_
  refine g_iconst (pc := 25) dX4_sendEngine_25 ci_2 ?_
  refine g_aload_n (pc := 26) dX4_sendEngine_26 2 rfl ?_
  refine g_getr (pc := 27) cl4 (Nat.le_of_ble_eq_true rfl) fk422 (fun _ _ _ => rfl) dX4_sendEngine_27 (fun x11 => ?_)
  refine g_getr (pc := 30) cl8 (Nat.le_of_ble_eq_true rfl) fk265 (fun _ _ _ => rfl) dX4_sendEngine_30 (fun x12 => ?_)
  refine g_iload_n (pc := 33) dX4_sendEngine_33 1 rfl ?_
  refine g_aald (pc := 34) (t := 7) (Nat.le_of_ble_eq_true rfl) (Nat.le_of_ble_eq_true rfl) dX4_sendEngine_34 (fun x13 => ?_)
  refine g_geti (pc := 35) cl1 (Nat.le_of_ble_eq_true rfl) fk170 (fun _ _ _ => rfl) dX4_sendEngine_35 (fun x14 => ?_)
  refine g_imul (pc := 38) dX4_sendEngine_38 ?_
  refine g_iadd (pc := 39) dX4_sendEngine_39 ?_
  refine g_aload_n (pc := 40) dX4_sendEngine_40 3 rfl ?_
  refine g_geti (pc := 41) cl3 (Nat.le_of_ble_eq_true rfl) fk199 (fun _ _ _ => rfl) dX4_sendEngine_41 (fun x15 => ?_)
  refine g_iadd (pc := 44) dX4_sendEngine_44 ?_
  refine g_topi (fun x16 => ?_)
  refine g_istore (pc := 45) (lv' := [(5, .int x16), (4, .int x10), (3, .int x5), (0, .ref (e_z E + x1)), (1, .ref (e_z E + x2)), (2, .int x3)]) dX4_sendEngine_45 (Nat.le_of_ble_eq_true rfl) rfl ?_
  refine g_aload_n (pc := 47) dX4_sendEngine_47 3 rfl ?_
  refine g_getr (pc := 48) cl4 (Nat.le_of_ble_eq_true rfl) fk421 (fun _ _ _ => rfl) dX4_sendEngine_48 (fun x17 => ?_)
  refine g_getr (pc := 51) cl10 (Nat.le_of_ble_eq_true rfl) fk371 (fun _ _ _ => rfl) dX4_sendEngine_51 (fun x18 => ?_)
  refine g_iload_n (pc := 54) dX4_sendEngine_54 2 rfl ?_
  refine g_iload (pc := 55) dX4_sendEngine_55 0 rfl ?_
  refine g_iast (pc := 57) dX4_sendEngine_57 (fun h1 => ?_)
  refine g_aload_n (pc := 58) dX4_sendEngine_58 3 rfl ?_
  refine g_getr (pc := 59) cl4 (Nat.le_of_ble_eq_true rfl) fk421 (fun _ _ _ => rfl) dX4_sendEngine_59 (fun x19 => ?_)
  refine g_getr (pc := 62) cl10 (Nat.le_of_ble_eq_true rfl) fk374 (fun _ _ _ => rfl) dX4_sendEngine_62 (fun x20 => ?_)
  refine g_iload_n (pc := 65) dX4_sendEngine_65 2 rfl ?_
  refine g_aload_n (pc := 66) dX4_sendEngine_66 3 rfl ?_
  refine g_getr (pc := 67) cl4 (Nat.le_of_ble_eq_true rfl) fk432 (fun _ _ _ => rfl) dX4_sendEngine_67 (fun x21 => ?_)
  refine g_iload_n (pc := 70) dX4_sendEngine_70 5 rfl ?_
  refine g_iald (pc := 71) dX4_sendEngine_71 (fun x22 => ?_)
  refine g_iast (pc := 72) dX4_sendEngine_72 (fun h2 => ?_)
  refine g_aload_n (pc := 73) dX4_sendEngine_73 3 rfl ?_
  refine g_getr (pc := 74) cl4 (Nat.le_of_ble_eq_true rfl) fk421 (fun _ _ _ => rfl) dX4_sendEngine_74 (fun x23 => ?_)
  refine g_getr (pc := 77) cl10 (Nat.le_of_ble_eq_true rfl) fk380 (fun _ _ _ => rfl) dX4_sendEngine_77 (fun x24 => ?_)
  refine g_iload_n (pc := 80) dX4_sendEngine_80 2 rfl ?_
  refine g_iload (pc := 81) dX4_sendEngine_81 1 rfl ?_
  refine g_aload_n (pc := 83) dX4_sendEngine_83 3 rfl ?_
  refine g_getr (pc := 84) cl4 (Nat.le_of_ble_eq_true rfl) fk432 (fun _ _ _ => rfl) dX4_sendEngine_84 (fun x25 => ?_)
  refine g_iload_n (pc := 87) dX4_sendEngine_87 5 rfl ?_
  refine g_iald (pc := 88) dX4_sendEngine_88 (fun x26 => ?_)
  refine g_gS (fun hs => ?_)
  refine g_bRv (pc := 89) (c_VN cl0 hs (p_X0_addLeaver hl x24 x5 x10 x26 h2) y_X0_addLeaver tw1439 dX4_sendEngine_89 rfl (st := []) rfl (Nat.le_of_ble_eq_true rfl) (Nat.le_of_ble_eq_true rfl) (Nat.le_of_ble_eq_true rfl)) (fun _ h3 => ?_)
  refine g_iconst (pc := 92) dX4_sendEngine_92 ci_0 ?_
  refine g_istore (pc := 93) (lv' := [(6, .int (0 : Int32)), (5, .int x16), (4, .int x10), (3, .int x5), (0, .ref (e_z E + x1)), (1, .ref (e_z E + x2)), (2, .int x3)]) dX4_sendEngine_93 (Nat.le_of_ble_eq_true rfl) rfl ?_
  refine g_iconst (pc := 95) dX4_sendEngine_95 ci_0 ?_
  refine g_istore (pc := 96) (lv' := [(7, .int (0 : Int32)), (6, .int (0 : Int32)), (5, .int x16), (4, .int x10), (3, .int x5), (0, .ref (e_z E + x1)), (1, .ref (e_z E + x2)), (2, .int x3)]) dX4_sendEngine_96 (Nat.le_of_ble_eq_true rfl) rfl ?_
  refine g_join (fun k => ∀ (x27 : Int32) (h4 : aH), J_X4_sendEngine l E n0 m0 146 [(6, .int x27)] [] h4 (k x27 h4)) (fun x27 h4 => ?_) (fun k146 hk146 => ?_)
  · refine g_iload (pc := 146) dX4_sendEngine_146 0 rfl ?_
    exact g_ret (pc := 148) rfl (isRet_i _) dX4_sendEngine_148 rfl
  refine g_lv [5, 7, 2, 1, 0] rfl ?_
  refine g_loop2 (F := (m_X4_sendEngine_L98 x1 x3 x16 k146)) (fun x28 x29 => [(0, .ref (e_z E + x1)), (2, .int x3), (5, .int x16), (6, .int x28), (7, .int x29)]) (fun r98 hr98 x28 x29 h5 => ?_) _ _ _ _
  unfold m_X4_sendEngine_L98
  refine g_iload (pc := 98) dX4_sendEngine_98 4 rfl ?_
  refine g_aload_n (pc := 100) dX4_sendEngine_100 0 rfl ?_
  refine g_getr (pc := 101) cl4 (Nat.le_of_ble_eq_true rfl) fk422 (fun _ _ _ => rfl) dX4_sendEngine_101 (fun x30 => ?_)
  refine g_geti (pc := 104) cl8 (Nat.le_of_ble_eq_true rfl) fk239 (fun _ _ _ => rfl) dX4_sendEngine_104 (fun x31 => ?_)
  refine g_icmpge (pc := 107) (tgt := 146) dX4_sendEngine_107 rfl ?_ ?_
  · refine g_aload_n (pc := 110) dX4_sendEngine_110 0 rfl ?_
    refine g_getr (pc := 111) cl4 (Nat.le_of_ble_eq_true rfl) fk432 (fun _ _ _ => rfl) dX4_sendEngine_111 (fun x32 => ?_)
    refine g_iload_n (pc := 114) dX4_sendEngine_114 1 rfl ?_
    refine g_iald (pc := 115) dX4_sendEngine_115 (fun x33 => ?_)
    refine g_iload (pc := 116) dX4_sendEngine_116 4 rfl ?_
    refine g_bRi (pc := 118) (c_SN (p_X11_has hl x33 x29 h5) y_X11_has tw1234 dX4_sendEngine_118 rfl (st := []) rfl (Nat.le_of_ble_eq_true rfl) (Nat.le_of_ble_eq_true rfl) (Nat.le_of_ble_eq_true rfl)) (fun x34 h6 => ?_)
    refine g_join (fun k => ∀ (x35 : Int32) (h7 : aH), J_X4_sendEngine l E n0 m0 140 [(0, .ref (e_z E + x1)), (2, .int x3), (5, .int x16), (6, .int x35), (7, .int x29)] [] h7 (k x35 h7)) (fun x35 h7 => ?_) (fun k140 hk140 => ?_)
    · refine g_iincN (pc := 140) dX4_sendEngine_140 4 rfl ci_1 (Nat.le_of_ble_eq_true rfl) (fun x36 => ?_)
      refine g_lvr (lv' := [(7, .int x36), (0, .ref (e_z E + x1)), (2, .int x3), (5, .int x16), (6, .int x35)]) rfl ?_
      refine g_goto (pc := 143) (tgt := 98) dX4_sendEngine_143 rfl ?_
      refine g_lv [1, 2, 3, 4, 0] rfl ?_
      exact hr98 x35 x36 h7
    refine g_ifeq (pc := 121) (tgt := 140) dX4_sendEngine_121 rfl ?_ ?_
    · exact hk140 x28 h6
    · refine g_iload (pc := 124) dX4_sendEngine_124 3 rfl ?_
      refine g_aload_n (pc := 126) dX4_sendEngine_126 0 rfl ?_
      refine g_getr (pc := 127) cl4 (Nat.le_of_ble_eq_true rfl) fk421 (fun _ _ _ => rfl) dX4_sendEngine_127 (fun x37 => ?_)
      refine g_iload (pc := 130) dX4_sendEngine_130 4 rfl ?_
      refine g_iload (pc := 132) dX4_sendEngine_132 2 rfl ?_
      refine g_gS (fun hs => ?_)
      refine g_bRi (pc := 134) (c_VN cl10 hs (p_X10_sendAway hl x37 x29 x16 h6) y_X10_sendAway tw1443 dX4_sendEngine_134 rfl (st := [.int x28]) rfl (Nat.le_of_ble_eq_true rfl) (Nat.le_of_ble_eq_true rfl) (Nat.le_of_ble_eq_true rfl)) (fun x38 h8 => ?_)
      refine g_iadd (pc := 137) dX4_sendEngine_137 ?_
      refine g_topi (fun x39 => ?_)
      refine g_istore (pc := 138) (lv' := [(6, .int x39), (0, .ref (e_z E + x1)), (2, .int x3), (5, .int x16), (7, .int x29)]) dX4_sendEngine_138 (Nat.le_of_ble_eq_true rfl) rfl ?_
      refine g_lv [1, 2, 3, 0, 4] rfl ?_
      exact hk140 x39 h8
  · refine g_lv [3] rfl ?_
    exact hk146 x28 h5
theorem p_X4_sendEngine {l : Launch} {E : aE} (hl : l.stackTraces = false) (x1 : Nat) (x2 : Nat) (x3 : Int32) (h0 : aH) : MO (fun (v : Int32) => .inl (some (.int v))) l E yX4_sendEngine (.code yX4_sendEngine cX4_sendEngine 8 (some .int)) 4 99 [.ref (e_z E + x1), .ref (e_z E + x2), .int x3] h0 (m_X4_sendEngine x1 x2 x3 h0) := g_met hl (by decide +kernel) (Nat.le_of_ble_eq_true rfl) (b_X4_sendEngine hl _ _ x1 x2 x3 h0)
theorem dX4_carryOut_0 : decode cX4_carryOut 0 = .ok (.aload_n 0, 1) := by decide +kernel
theorem dX4_carryOut_1 : decode cX4_carryOut 1 = .ok (.aload_n 1, 1) := by decide +kernel
theorem dX4_carryOut_2 : decode cX4_carryOut 2 = .ok (.invokevirtual 172, 3) := by decide +kernel
theorem dX4_carryOut_5 : decode cX4_carryOut 5 = .ok (.aload_n 0, 1) := by decide +kernel
theorem dX4_carryOut_6 : decode cX4_carryOut 6 = .ok (.getfield 33, 3) := by decide +kernel
theorem dX4_carryOut_9 : decode cX4_carryOut 9 = .ok (.getfield 175, 3) := by decide +kernel
theorem dX4_carryOut_12 : decode cX4_carryOut 12 = .ok (.aload_n 0, 1) := by decide +kernel
theorem dX4_carryOut_13 : decode cX4_carryOut 13 = .ok (.getfield 48, 3) := by decide +kernel
theorem dX4_carryOut_16 : decode cX4_carryOut 16 = .ok (.invokestatic 157, 3) := by decide +kernel
theorem dX4_carryOut_19 : decode cX4_carryOut 19 = .ok (.invokevirtual 179, 3) := by decide +kernel
theorem dX4_carryOut_22 : decode cX4_carryOut 22 = .ok (.iconst 0, 1) := by decide +kernel
theorem dX4_carryOut_23 : decode cX4_carryOut 23 = .ok (.istore_n 2, 1) := by decide +kernel
theorem dX4_carryOut_24 : decode cX4_carryOut 24 = .ok (.iconst 0, 1) := by decide +kernel
theorem dX4_carryOut_25 : decode cX4_carryOut 25 = .ok (.istore_n 3, 1) := by decide +kernel
theorem dX4_carryOut_26 : decode cX4_carryOut 26 = .ok (.iconst 0, 1) := by decide +kernel
theorem dX4_carryOut_27 : decode cX4_carryOut 27 = .ok (.istore 4, 2) := by decide +kernel
theorem dX4_carryOut_29 : decode cX4_carryOut 29 = .ok (.iload 4, 2) := by decide +kernel
theorem dX4_carryOut_31 : decode cX4_carryOut 31 = .ok (.aload_n 1, 1) := by decide +kernel
theorem dX4_carryOut_32 : decode cX4_carryOut 32 = .ok (.getfield 55, 3) := by decide +kernel
theorem dX4_carryOut_35 : decode cX4_carryOut 35 = .ok (.if_icmp .ge 35, 3) := by decide +kernel
theorem dX4_carryOut_38 : decode cX4_carryOut 38 = .ok (.aload_n 0, 1) := by decide +kernel
theorem dX4_carryOut_39 : decode cX4_carryOut 39 = .ok (.getfield 18, 3) := by decide +kernel
theorem dX4_carryOut_42 : decode cX4_carryOut 42 = .ok (.iload 4, 2) := by decide +kernel
theorem dX4_carryOut_44 : decode cX4_carryOut 44 = .ok (.iaload, 1) := by decide +kernel
theorem dX4_carryOut_45 : decode cX4_carryOut 45 = .ok (.ifCond .ne 19, 3) := by decide +kernel
theorem dX4_carryOut_48 : decode cX4_carryOut 48 = .ok (.iload_n 2, 1) := by decide +kernel
theorem dX4_carryOut_49 : decode cX4_carryOut 49 = .ok (.bipush 50, 2) := by decide +kernel
theorem dX4_carryOut_51 : decode cX4_carryOut 51 = .ok (.aload_n 0, 1) := by decide +kernel
theorem dX4_carryOut_52 : decode cX4_carryOut 52 = .ok (.aload_n 1, 1) := by decide +kernel
theorem dX4_carryOut_53 : decode cX4_carryOut 53 = .ok (.iload 4, 2) := by decide +kernel
theorem dX4_carryOut_55 : decode cX4_carryOut 55 = .ok (.invokevirtual 185, 3) := by decide +kernel
theorem dX4_carryOut_58 : decode cX4_carryOut 58 = .ok (.iadd, 1) := by decide +kernel
theorem dX4_carryOut_59 : decode cX4_carryOut 59 = .ok (.iadd, 1) := by decide +kernel
theorem dX4_carryOut_60 : decode cX4_carryOut 60 = .ok (.istore_n 2, 1) := by decide +kernel
theorem dX4_carryOut_61 : decode cX4_carryOut 61 = .ok (.iinc 3 1, 3) := by decide +kernel
theorem dX4_carryOut_64 : decode cX4_carryOut 64 = .ok (.iinc 4 1, 3) := by decide +kernel
theorem dX4_carryOut_67 : decode cX4_carryOut 67 = .ok (.goto (-38), 3) := by decide +kernel
theorem dX4_carryOut_70 : decode cX4_carryOut 70 = .ok (.iconst 0, 1) := by decide +kernel
theorem dX4_carryOut_71 : decode cX4_carryOut 71 = .ok (.istore 4, 2) := by decide +kernel
theorem dX4_carryOut_73 : decode cX4_carryOut 73 = .ok (.iload 4, 2) := by decide +kernel
theorem dX4_carryOut_75 : decode cX4_carryOut 75 = .ok (.aload_n 0, 1) := by decide +kernel
theorem dX4_carryOut_76 : decode cX4_carryOut 76 = .ok (.getfield 43, 3) := by decide +kernel
theorem dX4_carryOut_79 : decode cX4_carryOut 79 = .ok (.getfield 83, 3) := by decide +kernel
theorem dX4_carryOut_82 : decode cX4_carryOut 82 = .ok (.if_icmp .ge 66, 3) := by decide +kernel
theorem dX4_carryOut_85 : decode cX4_carryOut 85 = .ok (.aload_n 0, 1) := by decide +kernel
theorem dX4_carryOut_86 : decode cX4_carryOut 86 = .ok (.getfield 52, 3) := by decide +kernel
theorem dX4_carryOut_89 : decode cX4_carryOut 89 = .ok (.iload 4, 2) := by decide +kernel
theorem dX4_carryOut_91 : decode cX4_carryOut 91 = .ok (.invokestatic 92, 3) := by decide +kernel
theorem dX4_carryOut_94 : decode cX4_carryOut 94 = .ok (.ifCond .eq 48, 3) := by decide +kernel
theorem dX4_carryOut_97 : decode cX4_carryOut 97 = .ok (.aload_n 0, 1) := by decide +kernel
theorem dX4_carryOut_98 : decode cX4_carryOut 98 = .ok (.getfield 15, 3) := by decide +kernel
theorem dX4_carryOut_101 : decode cX4_carryOut 101 = .ok (.iload 4, 2) := by decide +kernel
theorem dX4_carryOut_103 : decode cX4_carryOut 103 = .ok (.iaload, 1) := by decide +kernel
theorem dX4_carryOut_104 : decode cX4_carryOut 104 = .ok (.aload_n 0, 1) := by decide +kernel
theorem dX4_carryOut_105 : decode cX4_carryOut 105 = .ok (.getfield 43, 3) := by decide +kernel
theorem dX4_carryOut_108 : decode cX4_carryOut 108 = .ok (.getfield 189, 3) := by decide +kernel
theorem dX4_carryOut_111 : decode cX4_carryOut 111 = .ok (.iload 4, 2) := by decide +kernel
theorem dX4_carryOut_113 : decode cX4_carryOut 113 = .ok (.aaload, 1) := by decide +kernel
theorem dX4_carryOut_114 : decode cX4_carryOut 114 = .ok (.getfield 193, 3) := by decide +kernel
theorem dX4_carryOut_117 : decode cX4_carryOut 117 = .ok (.iadd, 1) := by decide +kernel
theorem dX4_carryOut_118 : decode cX4_carryOut 118 = .ok (.istore 5, 2) := by decide +kernel
theorem dX4_carryOut_120 : decode cX4_carryOut 120 = .ok (.iload_n 2, 1) := by decide +kernel
theorem dX4_carryOut_121 : decode cX4_carryOut 121 = .ok (.aload_n 0, 1) := by decide +kernel
theorem dX4_carryOut_122 : decode cX4_carryOut 122 = .ok (.getfield 33, 3) := by decide +kernel
theorem dX4_carryOut_125 : decode cX4_carryOut 125 = .ok (.iload 4, 2) := by decide +kernel
theorem dX4_carryOut_127 : decode cX4_carryOut 127 = .ok (.aload_n 0, 1) := by decide +kernel
theorem dX4_carryOut_128 : decode cX4_carryOut 128 = .ok (.getfield 33, 3) := by decide +kernel
theorem dX4_carryOut_131 : decode cX4_carryOut 131 = .ok (.getfield 76, 3) := by decide +kernel
theorem dX4_carryOut_134 : decode cX4_carryOut 134 = .ok (.iload 5, 2) := by decide +kernel
theorem dX4_carryOut_136 : decode cX4_carryOut 136 = .ok (.iadd, 1) := by decide +kernel
theorem dX4_carryOut_137 : decode cX4_carryOut 137 = .ok (.invokevirtual 198, 3) := by decide +kernel
theorem dX4_carryOut_140 : decode cX4_carryOut 140 = .ok (.iadd, 1) := by decide +kernel
theorem dX4_carryOut_141 : decode cX4_carryOut 141 = .ok (.istore_n 2, 1) := by decide +kernel
theorem dX4_carryOut_142 : decode cX4_carryOut 142 = .ok (.iinc 4 1, 3) := by decide +kernel
theorem dX4_carryOut_145 : decode cX4_carryOut 145 = .ok (.goto (-72), 3) := by decide +kernel
theorem dX4_carryOut_148 : decode cX4_carryOut 148 = .ok (.aload_n 0, 1) := by decide +kernel
theorem dX4_carryOut_149 : decode cX4_carryOut 149 = .ok (.getfield 33, 3) := by decide +kernel
theorem dX4_carryOut_152 : decode cX4_carryOut 152 = .ok (.getfield 175, 3) := by decide +kernel
theorem dX4_carryOut_155 : decode cX4_carryOut 155 = .ok (.iload_n 2, 1) := by decide +kernel
theorem dX4_carryOut_156 : decode cX4_carryOut 156 = .ok (.iload_n 3, 1) := by decide +kernel
theorem dX4_carryOut_157 : decode cX4_carryOut 157 = .ok (.aload_n 1, 1) := by decide +kernel
theorem dX4_carryOut_158 : decode cX4_carryOut 158 = .ok (.getfield 67, 3) := by decide +kernel
theorem dX4_carryOut_161 : decode cX4_carryOut 161 = .ok (.if_icmp .lt 7, 3) := by decide +kernel
theorem dX4_carryOut_164 : decode cX4_carryOut 164 = .ok (.iconst 1, 1) := by decide +kernel
theorem dX4_carryOut_165 : decode cX4_carryOut 165 = .ok (.goto 4, 3) := by decide +kernel
theorem dX4_carryOut_168 : decode cX4_carryOut 168 = .ok (.iconst 0, 1) := by decide +kernel
theorem dX4_carryOut_169 : decode cX4_carryOut 169 = .ok (.invokevirtual 201, 3) := by decide +kernel
theorem dX4_carryOut_172 : decode cX4_carryOut 172 = .ok (.ireturn, 1) := by decide +kernel
abbrev M_X4_carryOut : aM := (yX4_carryOut.cls, cX4_carryOut, 6, (some .int), [], yX4_carryOut.name == "<init>")
abbrev J_X4_carryOut (l : Launch) (E : aE) (n0 m0 : Nat) := GG (fun (v : Int32) => .inl (some (.int v))) l E M_X4_carryOut 5 126 n0 m0
theorem b_X4_carryOut {l : Launch} {E : aE} (hl : l.stackTraces = false) (n0 m0 : Nat) (x1 : Nat) (x2 : Nat) (h0 : aH) : J_X4_carryOut l E n0 m0 0 [(0, .ref (e_z E + x1)), (1, .ref (e_z E + x2))] [] h0 (m_X4_carryOut x1 x2 h0) := by
  unfold m_X4_carryOut
  refine g_aload_n (pc := 0) dX4_carryOut_0 0 rfl ?_
  refine g_aload_n (pc := 1) dX4_carryOut_1 1 rfl ?_
  refine g_gS (fun hs => ?_)
  refine g_bRv (pc := 2) (c_V cl4 hs (p_X4_loseTrust hl x1 x2 h0) y_X4_loseTrust tw1425 dX4_carryOut_2 rfl (st := []) rfl (Nat.le_of_ble_eq_true rfl) (Nat.le_of_ble_eq_true rfl) (Nat.le_of_ble_eq_true rfl)) (fun _ h1 => ?_)
  refine g_aload_n (pc := 5) dX4_carryOut_5 0 rfl ?_
  refine g_getr (pc := 6) cl4 (Nat.le_of_ble_eq_true rfl) fk421 (fun _ _ _ => rfl) dX4_carryOut_6 (fun x3 => ?_)
  refine g_getr (pc := 9) cl10 (Nat.le_of_ble_eq_true rfl) fk380 (fun _ _ _ => rfl) dX4_carryOut_9 (fun x4 => ?_)
  refine g_aload_n (pc := 12) dX4_carryOut_12 0 rfl ?_
  refine g_geti (pc := 13) cl4 (Nat.le_of_ble_eq_true rfl) fk426 (fun _ _ _ => rfl) dX4_carryOut_13 (fun x5 => ?_)
  refine g_bRi (pc := 16) (c_S (p_J6_bitCount_0f7a4 hl x5 h1) y_J6_bitCount_0f7a4 tw1339 dX4_carryOut_16 rfl (st := [.ref (e_z E + x4)]) rfl (Nat.le_of_ble_eq_true rfl) (Nat.le_of_ble_eq_true rfl) (Nat.le_of_ble_eq_true rfl)) (fun x6 h2 => ?_)
  refine g_gS (fun hs => ?_)
  refine g_bRv (pc := 19) (c_VN cl0 hs (p_X0_open hl x4 x6 h2) y_X0_open tw1431 dX4_carryOut_19 rfl (st := []) rfl (Nat.le_of_ble_eq_true rfl) (Nat.le_of_ble_eq_true rfl) (Nat.le_of_ble_eq_true rfl)) (fun _ h3 => ?_)
  refine g_iconst (pc := 22) dX4_carryOut_22 ci_0 ?_
  refine g_istore_n (pc := 23) (lv' := [(2, .int (0 : Int32)), (0, .ref (e_z E + x1)), (1, .ref (e_z E + x2))]) dX4_carryOut_23 (Nat.le_of_ble_eq_true rfl) rfl ?_
  refine g_iconst (pc := 24) dX4_carryOut_24 ci_0 ?_
  refine g_istore_n (pc := 25) (lv' := [(3, .int (0 : Int32)), (2, .int (0 : Int32)), (0, .ref (e_z E + x1)), (1, .ref (e_z E + x2))]) dX4_carryOut_25 (Nat.le_of_ble_eq_true rfl) rfl ?_
  refine g_iconst (pc := 26) dX4_carryOut_26 ci_0 ?_
  refine g_istore (pc := 27) (lv' := [(4, .int (0 : Int32)), (3, .int (0 : Int32)), (2, .int (0 : Int32)), (0, .ref (e_z E + x1)), (1, .ref (e_z E + x2))]) dX4_carryOut_27 (Nat.le_of_ble_eq_true rfl) rfl ?_
  refine g_join (fun k => ∀ (x7 : Int32) (x8 : Int32) (h4 : aH), J_X4_carryOut l E n0 m0 70 [(0, .ref (e_z E + x1)), (1, .ref (e_z E + x2)), (2, .int x7), (3, .int x8)] [] h4 (k x7 x8 h4)) (fun x7 x8 h4 => ?_) (fun k70 hk70 => ?_)
  · refine g_iconst (pc := 70) dX4_carryOut_70 ci_0 ?_
    refine g_istore (pc := 71) (lv' := [(4, .int (0 : Int32)), (0, .ref (e_z E + x1)), (1, .ref (e_z E + x2)), (2, .int x7), (3, .int x8)]) dX4_carryOut_71 (Nat.le_of_ble_eq_true rfl) rfl ?_
    refine g_join (fun k => ∀ (x9 : Int32) (h5 : aH), J_X4_carryOut l E n0 m0 148 [(0, .ref (e_z E + x1)), (1, .ref (e_z E + x2)), (2, .int x9), (3, .int x8)] [] h5 (k x9 h5)) (fun x9 h5 => ?_) (fun k148 hk148 => ?_)
    · refine g_aload_n (pc := 148) dX4_carryOut_148 0 rfl ?_
      refine g_getr (pc := 149) cl4 (Nat.le_of_ble_eq_true rfl) fk421 (fun _ _ _ => rfl) dX4_carryOut_149 (fun x10 => ?_)
      refine g_getr (pc := 152) cl10 (Nat.le_of_ble_eq_true rfl) fk380 (fun _ _ _ => rfl) dX4_carryOut_152 (fun x11 => ?_)
      refine g_iload_n (pc := 155) dX4_carryOut_155 2 rfl ?_
      refine g_iload_n (pc := 156) dX4_carryOut_156 3 rfl ?_
      refine g_aload_n (pc := 157) dX4_carryOut_157 1 rfl ?_
      refine g_geti (pc := 158) cl3 (Nat.le_of_ble_eq_true rfl) fk203 (fun _ _ _ => rfl) dX4_carryOut_158 (fun x12 => ?_)
      refine g_join (fun k => ∀ (x13 : Int32) (h6 : aH), J_X4_carryOut l E n0 m0 169 [] [.int x13, .int x9, .ref (e_z E + x11)] h6 (k x13 h6)) (fun x13 h6 => ?_) (fun k169 hk169 => ?_)
      · refine g_gS (fun hs => ?_)
        refine g_bRi (pc := 169) (c_VN cl0 hs (p_X0_close hl x11 x9 x13 h6) y_X0_close tw1447 dX4_carryOut_169 rfl (st := []) rfl (Nat.le_of_ble_eq_true rfl) (Nat.le_of_ble_eq_true rfl) (Nat.le_of_ble_eq_true rfl)) (fun x14 h7 => ?_)
        exact g_ret (pc := 172) rfl (isRet_i _) dX4_carryOut_172 rfl
      refine g_icmplt (pc := 161) (tgt := 168) dX4_carryOut_161 rfl ?_ ?_
      · refine g_iconst (pc := 168) dX4_carryOut_168 ci_0 ?_
        refine g_lv [] rfl ?_
        exact hk169 (0 : Int32) h5
      · refine g_iconst (pc := 164) dX4_carryOut_164 ci_1 ?_
        refine g_goto (pc := 165) (tgt := 169) dX4_carryOut_165 rfl ?_
        refine g_lv [] rfl ?_
        exact hk169 (1 : Int32) h5
    refine g_lv [1, 2, 3, 4, 0] rfl ?_
    refine g_loop2 (F := (m_X4_carryOut_L73 x1 k148)) (fun x15 x16 => [(0, .ref (e_z E + x1)), (1, .ref (e_z E + x2)), (2, .int x15), (3, .int x8), (4, .int x16)]) (fun r73 hr73 x15 x16 h8 => ?_) _ _ _ _
    unfold m_X4_carryOut_L73
    refine g_iload (pc := 73) dX4_carryOut_73 4 rfl ?_
    refine g_aload_n (pc := 75) dX4_carryOut_75 0 rfl ?_
    refine g_getr (pc := 76) cl4 (Nat.le_of_ble_eq_true rfl) fk422 (fun _ _ _ => rfl) dX4_carryOut_76 (fun x17 => ?_)
    refine g_geti (pc := 79) cl8 (Nat.le_of_ble_eq_true rfl) fk239 (fun _ _ _ => rfl) dX4_carryOut_79 (fun x18 => ?_)
    refine g_icmpge (pc := 82) (tgt := 148) dX4_carryOut_82 rfl ?_ ?_
    · refine g_aload_n (pc := 85) dX4_carryOut_85 0 rfl ?_
      refine g_geti (pc := 86) cl4 (Nat.le_of_ble_eq_true rfl) fk427 (fun _ _ _ => rfl) dX4_carryOut_86 (fun x19 => ?_)
      refine g_iload (pc := 89) dX4_carryOut_89 4 rfl ?_
      refine g_bRi (pc := 91) (c_SN (p_X11_has hl x19 x16 h8) y_X11_has tw1234 dX4_carryOut_91 rfl (st := []) rfl (Nat.le_of_ble_eq_true rfl) (Nat.le_of_ble_eq_true rfl) (Nat.le_of_ble_eq_true rfl)) (fun x20 h9 => ?_)
      refine g_join (fun k => ∀ (x21 : Int32) (h10 : aH), J_X4_carryOut l E n0 m0 142 [(0, .ref (e_z E + x1)), (1, .ref (e_z E + x2)), (2, .int x21), (3, .int x8), (4, .int x16)] [] h10 (k x21 h10)) (fun x21 h10 => ?_) (fun k142 hk142 => ?_)
      · refine g_iincN (pc := 142) dX4_carryOut_142 4 rfl ci_1 (Nat.le_of_ble_eq_true rfl) (fun x22 => ?_)
        refine g_lvr (lv' := [(4, .int x22), (0, .ref (e_z E + x1)), (1, .ref (e_z E + x2)), (2, .int x21), (3, .int x8)]) rfl ?_
        refine g_goto (pc := 145) (tgt := 73) dX4_carryOut_145 rfl ?_
        refine g_lv [1, 2, 3, 4, 0] rfl ?_
        exact hr73 x21 x22 h10
      refine g_ifeq (pc := 94) (tgt := 142) dX4_carryOut_94 rfl ?_ ?_
      · exact hk142 x15 h9
      · refine g_aload_n (pc := 97) dX4_carryOut_97 0 rfl ?_
        refine g_getr (pc := 98) cl4 (Nat.le_of_ble_eq_true rfl) fk425 (fun _ _ _ => rfl) dX4_carryOut_98 (fun x23 => ?_)
        refine g_iload (pc := 101) dX4_carryOut_101 4 rfl ?_
        refine g_iald (pc := 103) dX4_carryOut_103 (fun x24 => ?_)
        refine g_aload_n (pc := 104) dX4_carryOut_104 0 rfl ?_
        refine g_getr (pc := 105) cl4 (Nat.le_of_ble_eq_true rfl) fk422 (fun _ _ _ => rfl) dX4_carryOut_105 (fun x25 => ?_)
        refine g_getr (pc := 108) cl8 (Nat.le_of_ble_eq_true rfl) fk245 (fun _ _ _ => rfl) dX4_carryOut_108 (fun x26 => ?_)
        refine g_iload (pc := 111) dX4_carryOut_111 4 rfl ?_
        refine g_aald (pc := 113) (t := 5) (Nat.le_of_ble_eq_true rfl) (Nat.le_of_ble_eq_true rfl) dX4_carryOut_113 (fun x27 => ?_)
        refine g_geti (pc := 114) cl7 (Nat.le_of_ble_eq_true rfl) fk123 (fun _ _ _ => rfl) dX4_carryOut_114 (fun x28 => ?_)
        refine g_iadd (pc := 117) dX4_carryOut_117 ?_
        refine g_topi (fun x29 => ?_)
        refine g_istore (pc := 118) (lv' := [(5, .int x29), (0, .ref (e_z E + x1)), (1, .ref (e_z E + x2)), (2, .int x15), (3, .int x8), (4, .int x16)]) dX4_carryOut_118 (Nat.le_of_ble_eq_true rfl) rfl ?_
        refine g_iload_n (pc := 120) dX4_carryOut_120 3 rfl ?_
        refine g_aload_n (pc := 121) dX4_carryOut_121 1 rfl ?_
        refine g_getr (pc := 122) cl4 (Nat.le_of_ble_eq_true rfl) fk421 (fun _ _ _ => rfl) dX4_carryOut_122 (fun x30 => ?_)
        refine g_iload (pc := 125) dX4_carryOut_125 5 rfl ?_
        refine g_aload_n (pc := 127) dX4_carryOut_127 1 rfl ?_
        refine g_getr (pc := 128) cl4 (Nat.le_of_ble_eq_true rfl) fk421 (fun _ _ _ => rfl) dX4_carryOut_128 (fun x31 => ?_)
        refine g_geti (pc := 131) cl10 (Nat.le_of_ble_eq_true rfl) fk350 (fun _ _ _ => rfl) dX4_carryOut_131 (fun x32 => ?_)
        refine g_iload (pc := 134) dX4_carryOut_134 0 rfl ?_
        refine g_iadd (pc := 136) dX4_carryOut_136 ?_
        refine g_gS (fun hs => ?_)
        refine g_bRi (pc := 137) (c_VN cl10 hs (p_X10_sendAway hl x30 x16 (x32 + x29) h9) y_X10_sendAway tw1443 dX4_carryOut_137 rfl (st := [.int x15]) rfl (Nat.le_of_ble_eq_true rfl) (Nat.le_of_ble_eq_true rfl) (Nat.le_of_ble_eq_true rfl)) (fun x33 h11 => ?_)
        refine g_iadd (pc := 140) dX4_carryOut_140 ?_
        refine g_topi (fun x34 => ?_)
        refine g_istore_n (pc := 141) (lv' := [(2, .int x34), (5, .int x29), (0, .ref (e_z E + x1)), (1, .ref (e_z E + x2)), (3, .int x8), (4, .int x16)]) dX4_carryOut_141 (Nat.le_of_ble_eq_true rfl) rfl ?_
        refine g_lv [2, 3, 0, 4, 5] rfl ?_
        exact hk142 x34 h11
    · refine g_lv [0, 1, 2, 3] rfl ?_
      exact hk148 x15 h8
  refine g_lv [3, 4, 2, 1, 0] rfl ?_
  refine g_loop3 (F := (m_X4_carryOut_L29 x1 x2 k70)) (fun x35 x36 x37 => [(0, .ref (e_z E + x1)), (1, .ref (e_z E + x2)), (2, .int x35), (3, .int x36), (4, .int x37)]) (fun r29 hr29 x35 x36 x37 h12 => ?_) _ _ _ _ _
  unfold m_X4_carryOut_L29
  refine g_iload (pc := 29) dX4_carryOut_29 4 rfl ?_
  refine g_aload_n (pc := 31) dX4_carryOut_31 1 rfl ?_
  refine g_geti (pc := 32) cl3 (Nat.le_of_ble_eq_true rfl) fk210 (fun _ _ _ => rfl) dX4_carryOut_32 (fun x38 => ?_)
  refine g_icmpge (pc := 35) (tgt := 70) dX4_carryOut_35 rfl ?_ ?_
  · refine g_aload_n (pc := 38) dX4_carryOut_38 0 rfl ?_
    refine g_getr (pc := 39) cl4 (Nat.le_of_ble_eq_true rfl) fk428 (fun _ _ _ => rfl) dX4_carryOut_39 (fun x39 => ?_)
    refine g_iload (pc := 42) dX4_carryOut_42 4 rfl ?_
    refine g_iald (pc := 44) dX4_carryOut_44 (fun x40 => ?_)
    refine g_join (fun k => ∀ (x41 : Int32) (x42 : Int32) (h13 : aH), J_X4_carryOut l E n0 m0 64 [(0, .ref (e_z E + x1)), (1, .ref (e_z E + x2)), (2, .int x41), (3, .int x42), (4, .int x37)] [] h13 (k x41 x42 h13)) (fun x41 x42 h13 => ?_) (fun k64 hk64 => ?_)
    · refine g_iincN (pc := 64) dX4_carryOut_64 4 rfl ci_1 (Nat.le_of_ble_eq_true rfl) (fun x43 => ?_)
      refine g_lvr (lv' := [(4, .int x43), (0, .ref (e_z E + x1)), (1, .ref (e_z E + x2)), (2, .int x41), (3, .int x42)]) rfl ?_
      refine g_goto (pc := 67) (tgt := 29) dX4_carryOut_67 rfl ?_
      refine g_lv [1, 2, 3, 4, 0] rfl ?_
      exact hr29 x41 x42 x43 h13
    refine g_ifne (pc := 45) (tgt := 64) dX4_carryOut_45 rfl ?_ ?_
    · refine g_iload_n (pc := 48) dX4_carryOut_48 2 rfl ?_
      refine g_bipush (pc := 49) dX4_carryOut_49 cb_50 ?_
      refine g_aload_n (pc := 51) dX4_carryOut_51 0 rfl ?_
      refine g_aload_n (pc := 52) dX4_carryOut_52 1 rfl ?_
      refine g_iload (pc := 53) dX4_carryOut_53 4 rfl ?_
      refine g_gS (fun hs => ?_)
      refine g_bRi (pc := 55) (c_V cl4 hs (p_X4_sendEngine hl x1 x2 x37 h12) y_X4_sendEngine tw1435 dX4_carryOut_55 rfl (st := [.int (50 : Int32), .int x35]) rfl (Nat.le_of_ble_eq_true rfl) (Nat.le_of_ble_eq_true rfl) (Nat.le_of_ble_eq_true rfl)) (fun x44 h14 => ?_)
      refine g_iadd (pc := 58) dX4_carryOut_58 ?_
      refine g_iadd (pc := 59) dX4_carryOut_59 ?_
      refine g_topi (fun x45 => ?_)
      refine g_istore_n (pc := 60) (lv' := [(2, .int x45), (0, .ref (e_z E + x1)), (1, .ref (e_z E + x2)), (3, .int x36), (4, .int x37)]) dX4_carryOut_60 (Nat.le_of_ble_eq_true rfl) rfl ?_
      refine g_iincN (pc := 61) dX4_carryOut_61 3 rfl ci_1 (Nat.le_of_ble_eq_true rfl) (fun x46 => ?_)
      refine g_lvr (lv' := [(3, .int x46), (2, .int x45), (0, .ref (e_z E + x1)), (1, .ref (e_z E + x2)), (4, .int x37)]) rfl ?_
      refine g_lv [2, 3, 1, 0, 4] rfl ?_
      exact hk64 x45 x46 h14
    · exact hk64 x35 x36 h12
  · refine g_lv [0, 1, 2, 3] rfl ?_
    exact hk70 x35 x36 h12
theorem p_X4_carryOut {l : Launch} {E : aE} (hl : l.stackTraces = false) (x1 : Nat) (x2 : Nat) (h0 : aH) : MO (fun (v : Int32) => .inl (some (.int v))) l E yX4_carryOut (.code yX4_carryOut cX4_carryOut 6 (some .int)) 5 126 [.ref (e_z E + x1), .ref (e_z E + x2)] h0 (m_X4_carryOut x1 x2 h0) := g_met hl (by decide +kernel) (Nat.le_of_ble_eq_true rfl) (b_X4_carryOut hl _ _ x1 x2 h0)
theorem dX5_init_0 : decode cX5_init 0 = .ok (.aload_n 0, 1) := by decide +kernel
theorem dX5_init_1 : decode cX5_init 1 = .ok (.invokespecial 3, 3) := by decide +kernel
theorem dX5_init_4 : decode cX5_init 4 = .ok (.return_, 1) := by decide +kernel
abbrev M_X5_init : aM := (yX5_init.cls, cX5_init, 1, none, [], yX5_init.name == "<init>")
abbrev J_X5_init (l : Launch) (E : aE) (n0 m0 : Nat) := GG (fun (_ : Unit) => .inl none) l E M_X5_init 1 30 n0 m0
theorem b_X5_init {l : Launch} {E : aE} (hl : l.stackTraces = false) (n0 m0 : Nat) (x1 : Nat) (h0 : aH) : J_X5_init l E n0 m0 0 [(0, .ref (e_z E + x1))] [] h0 (m_X5_init x1 h0) := by
  unfold m_X5_init
  refine g_aload_n (pc := 0) dX5_init_0 0 rfl ?_
  refine g_objInit (pc := 1) tw91 tw35 tw36 (Nat.le_of_ble_eq_true rfl) (Nat.le_of_ble_eq_true rfl) dX5_init_1 ?_
  exact g_ret (pc := 4) rfl isRet_v dX5_init_4 rfl
theorem p_X5_init {l : Launch} {E : aE} (hl : l.stackTraces = false) (x1 : Nat) (h0 : aH) : MO (fun (_ : Unit) => .inl none) l E yX5_init (.code yX5_init cX5_init 1 none) 1 30 [.ref (e_z E + x1)] h0 (m_X5_init x1 h0) := g_met hl (by decide +kernel) (Nat.le_of_ble_eq_true rfl) (b_X5_init hl _ _ x1 h0)
theorem dX5_set_0 : decode cX5_set 0 = .ok (.aload_n 0, 1) := by decide +kernel
theorem dX5_set_1 : decode cX5_set 1 = .ok (.iload_n 1, 1) := by decide +kernel
theorem dX5_set_2 : decode cX5_set 2 = .ok (.putfield 9, 3) := by decide +kernel
theorem dX5_set_5 : decode cX5_set 5 = .ok (.aload_n 0, 1) := by decide +kernel
theorem dX5_set_6 : decode cX5_set 6 = .ok (.iload_n 2, 1) := by decide +kernel
theorem dX5_set_7 : decode cX5_set 7 = .ok (.putfield 15, 3) := by decide +kernel
theorem dX5_set_10 : decode cX5_set 10 = .ok (.aload_n 0, 1) := by decide +kernel
theorem dX5_set_11 : decode cX5_set 11 = .ok (.iload_n 3, 1) := by decide +kernel
theorem dX5_set_12 : decode cX5_set 12 = .ok (.putfield 18, 3) := by decide +kernel
theorem dX5_set_15 : decode cX5_set 15 = .ok (.aload_n 0, 1) := by decide +kernel
theorem dX5_set_16 : decode cX5_set 16 = .ok (.iload 4, 2) := by decide +kernel
theorem dX5_set_18 : decode cX5_set 18 = .ok (.putfield 21, 3) := by decide +kernel
theorem dX5_set_21 : decode cX5_set 21 = .ok (.return_, 1) := by decide +kernel
abbrev M_X5_set : aM := (yX5_set.cls, cX5_set, 5, none, [], yX5_set.name == "<init>")
abbrev J_X5_set (l : Launch) (E : aE) (n0 m0 : Nat) := GG (fun (_ : Unit) => .inl none) l E M_X5_set 0 0 n0 m0
theorem b_X5_set {l : Launch} {E : aE} (hl : l.stackTraces = false) (n0 m0 : Nat) (x1 : Nat) (x2 : Int32) (x3 : Int32) (x4 : Int32) (x5 : Int32) (h0 : aH) : J_X5_set l E n0 m0 0 [(0, .ref (e_z E + x1)), (1, .int x2), (2, .int x3), (3, .int x4), (4, .int x5)] [] h0 (m_X5_set x1 x2 x3 x4 x5 h0) := by
  unfold m_X5_set
  refine g_aload_n (pc := 0) dX5_set_0 0 rfl ?_
  refine g_iload_n (pc := 1) dX5_set_1 1 rfl ?_
  refine g_puti (pc := 2) cl5 (Nat.le_of_ble_eq_true rfl) (Or.inl ⟨rfl, fk92⟩) (fun _ _ _ => rfl) (fun _ => ⟨rfl, rfl⟩) dX5_set_2 (fun h1 => ?_)
  refine g_aload_n (pc := 5) dX5_set_5 0 rfl ?_
  refine g_iload_n (pc := 6) dX5_set_6 2 rfl ?_
  refine g_puti (pc := 7) cl5 (Nat.le_of_ble_eq_true rfl) (Or.inl ⟨rfl, fk93⟩) (fun _ _ _ => rfl) (fun _ => ⟨rfl, rfl⟩) dX5_set_7 (fun h2 => ?_)
  refine g_aload_n (pc := 10) dX5_set_10 0 rfl ?_
  refine g_iload_n (pc := 11) dX5_set_11 3 rfl ?_
  refine g_puti (pc := 12) cl5 (Nat.le_of_ble_eq_true rfl) (Or.inl ⟨rfl, fk94⟩) (fun _ _ _ => rfl) (fun _ => ⟨rfl, rfl⟩) dX5_set_12 (fun h3 => ?_)
  refine g_aload_n (pc := 15) dX5_set_15 0 rfl ?_
  refine g_iload (pc := 16) dX5_set_16 4 rfl ?_
  refine g_puti (pc := 18) cl5 (Nat.le_of_ble_eq_true rfl) (Or.inl ⟨rfl, fk96⟩) (fun _ _ _ => rfl) (fun _ => ⟨rfl, rfl⟩) dX5_set_18 (fun h4 => ?_)
  exact g_ret (pc := 21) rfl isRet_v dX5_set_21 rfl
theorem p_X5_set {l : Launch} {E : aE} (hl : l.stackTraces = false) (x1 : Nat) (x2 : Int32) (x3 : Int32) (x4 : Int32) (x5 : Int32) (h0 : aH) : MO (fun (_ : Unit) => .inl none) l E yX5_set (.code yX5_set cX5_set 5 none) 0 0 [.ref (e_z E + x1), .int x2, .int x3, .int x4, .int x5] h0 (m_X5_set x1 x2 x3 x4 x5 h0) := g_met hl (by decide +kernel) (Nat.le_of_ble_eq_true rfl) (b_X5_set hl _ _ x1 x2 x3 x4 x5 h0)
theorem dX6_init_0 : decode cX6_init 0 = .ok (.aload_n 0, 1) := by decide +kernel
theorem dX6_init_1 : decode cX6_init 1 = .ok (.invokespecial 3, 3) := by decide +kernel
theorem dX6_init_4 : decode cX6_init 4 = .ok (.aload_n 0, 1) := by decide +kernel
theorem dX6_init_5 : decode cX6_init 5 = .ok (.bipush 8, 2) := by decide +kernel
theorem dX6_init_7 : decode cX6_init 7 = .ok (.newarray .int, 2) := by decide +kernel
theorem dX6_init_9 : decode cX6_init 9 = .ok (.putfield 9, 3) := by decide +kernel
theorem dX6_init_12 : decode cX6_init 12 = .ok (.return_, 1) := by decide +kernel
abbrev M_X6_init : aM := (yX6_init.cls, cX6_init, 1, none, [], yX6_init.name == "<init>")
abbrev J_X6_init (l : Launch) (E : aE) (n0 m0 : Nat) := GG (fun (_ : Unit) => .inl none) l E M_X6_init 1 30 n0 m0
theorem b_X6_init {l : Launch} {E : aE} (hl : l.stackTraces = false) (n0 m0 : Nat) (x1 : Nat) (h0 : aH) : J_X6_init l E n0 m0 0 [(0, .ref (e_z E + x1))] [] h0 (m_X6_init x1 h0) := by
  unfold m_X6_init
  refine g_aload_n (pc := 0) dX6_init_0 0 rfl ?_
  refine g_objInit (pc := 1) tw139 tw35 tw36 (Nat.le_of_ble_eq_true rfl) (Nat.le_of_ble_eq_true rfl) dX6_init_1 ?_
  refine g_aload_n (pc := 4) dX6_init_4 0 rfl ?_
  refine g_bipush (pc := 5) dX6_init_5 cb_8 ?_
  refine g_newa (pc := 7) (t := 0) (n := 8) (x := (8 : Int32)) at_0 tw134 (by decide +kernel) (Nat.le_of_ble_eq_true rfl) dX6_init_7 (fun x2 h1 => ?_)
  refine g_putr (pc := 9) cl6 (Nat.le_of_ble_eq_true rfl) (Or.inr ⟨rfl, rfl, by decide +kernel, tw149⟩) (fun _ _ _ => rfl) (fun _ => ⟨rfl, rfl⟩) dX6_init_9 (fun h2 => ?_)
  exact g_ret (pc := 12) rfl isRet_v dX6_init_12 rfl
theorem p_X6_init {l : Launch} {E : aE} (hl : l.stackTraces = false) (x1 : Nat) (h0 : aH) : MO (fun (_ : Unit) => .inl none) l E yX6_init (.code yX6_init cX6_init 1 none) 1 30 [.ref (e_z E + x1)] h0 (m_X6_init x1 h0) := g_met hl (by decide +kernel) (Nat.le_of_ble_eq_true rfl) (b_X6_init hl _ _ x1 h0)
theorem dX7_init_0 : decode cX7_init 0 = .ok (.aload_n 0, 1) := by decide +kernel
theorem dX7_init_1 : decode cX7_init 1 = .ok (.invokespecial 1, 3) := by decide +kernel
theorem dX7_init_4 : decode cX7_init 4 = .ok (.return_, 1) := by decide +kernel
abbrev M_X7_init : aM := (yX7_init.cls, cX7_init, 1, none, [], yX7_init.name == "<init>")
abbrev J_X7_init (l : Launch) (E : aE) (n0 m0 : Nat) := GG (fun (_ : Unit) => .inl none) l E M_X7_init 1 30 n0 m0
theorem b_X7_init {l : Launch} {E : aE} (hl : l.stackTraces = false) (n0 m0 : Nat) (x1 : Nat) (h0 : aH) : J_X7_init l E n0 m0 0 [(0, .ref (e_z E + x1))] [] h0 (m_X7_init x1 h0) := by
  unfold m_X7_init
  refine g_aload_n (pc := 0) dX7_init_0 0 rfl ?_
  refine g_objInit (pc := 1) tw119 tw35 tw36 (Nat.le_of_ble_eq_true rfl) (Nat.le_of_ble_eq_true rfl) dX7_init_1 ?_
  exact g_ret (pc := 4) rfl isRet_v dX7_init_4 rfl
theorem p_X7_init {l : Launch} {E : aE} (hl : l.stackTraces = false) (x1 : Nat) (h0 : aH) : MO (fun (_ : Unit) => .inl none) l E yX7_init (.code yX7_init cX7_init 1 none) 1 30 [.ref (e_z E + x1)] h0 (m_X7_init x1 h0) := g_met hl (by decide +kernel) (Nat.le_of_ble_eq_true rfl) (b_X7_init hl _ _ x1 h0)
