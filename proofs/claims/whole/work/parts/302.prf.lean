/-! proofs of methods -/
theorem dX8_init_0 : decode cX8_init 0 = .ok (.aload_n 0, 1) := by decide +kernel
theorem dX8_init_1 : decode cX8_init 1 = .ok (.invokespecial 3, 3) := by decide +kernel
theorem dX8_init_4 : decode cX8_init 4 = .ok (.aload_n 0, 1) := by decide +kernel
theorem dX8_init_5 : decode cX8_init 5 = .ok (.new 9, 3) := by decide +kernel
theorem dX8_init_8 : decode cX8_init 8 = .ok (.dup, 1) := by decide +kernel
theorem dX8_init_9 : decode cX8_init 9 = .ok (.invokespecial 11, 3) := by decide +kernel
theorem dX8_init_12 : decode cX8_init 12 = .ok (.putfield 12, 3) := by decide +kernel
theorem dX8_init_15 : decode cX8_init 15 = .ok (.aload_n 0, 1) := by decide +kernel
theorem dX8_init_16 : decode cX8_init 16 = .ok (.bipush 12, 2) := by decide +kernel
theorem dX8_init_18 : decode cX8_init 18 = .ok (.anewarray 18, 3) := by decide +kernel
theorem dX8_init_21 : decode cX8_init 21 = .ok (.putfield 20, 3) := by decide +kernel
theorem dX8_init_24 : decode cX8_init 24 = .ok (.aload_n 0, 1) := by decide +kernel
theorem dX8_init_25 : decode cX8_init 25 = .ok (.sipush 144, 3) := by decide +kernel
theorem dX8_init_28 : decode cX8_init 28 = .ok (.newarray .int, 2) := by decide +kernel
theorem dX8_init_30 : decode cX8_init 30 = .ok (.putfield 24, 3) := by decide +kernel
theorem dX8_init_33 : decode cX8_init 33 = .ok (.aload_n 0, 1) := by decide +kernel
theorem dX8_init_34 : decode cX8_init 34 = .ok (.bipush 6, 2) := by decide +kernel
theorem dX8_init_36 : decode cX8_init 36 = .ok (.anewarray 28, 3) := by decide +kernel
theorem dX8_init_39 : decode cX8_init 39 = .ok (.putfield 30, 3) := by decide +kernel
theorem dX8_init_42 : decode cX8_init 42 = .ok (.aload_n 0, 1) := by decide +kernel
theorem dX8_init_43 : decode cX8_init 43 = .ok (.iconst 5, 1) := by decide +kernel
theorem dX8_init_44 : decode cX8_init 44 = .ok (.anewarray 34, 3) := by decide +kernel
theorem dX8_init_47 : decode cX8_init 47 = .ok (.putfield 36, 3) := by decide +kernel
theorem dX8_init_50 : decode cX8_init 50 = .ok (.aload_n 0, 1) := by decide +kernel
theorem dX8_init_51 : decode cX8_init 51 = .ok (.bipush 6, 2) := by decide +kernel
theorem dX8_init_53 : decode cX8_init 53 = .ok (.anewarray 40, 3) := by decide +kernel
theorem dX8_init_56 : decode cX8_init 56 = .ok (.putfield 42, 3) := by decide +kernel
theorem dX8_init_59 : decode cX8_init 59 = .ok (.aload_n 0, 1) := by decide +kernel
theorem dX8_init_60 : decode cX8_init 60 = .ok (.bipush 32, 2) := by decide +kernel
theorem dX8_init_62 : decode cX8_init 62 = .ok (.newarray .int, 2) := by decide +kernel
theorem dX8_init_64 : decode cX8_init 64 = .ok (.putfield 46, 3) := by decide +kernel
theorem dX8_init_67 : decode cX8_init 67 = .ok (.iconst 0, 1) := by decide +kernel
theorem dX8_init_68 : decode cX8_init 68 = .ok (.istore_n 1, 1) := by decide +kernel
theorem dX8_init_69 : decode cX8_init 69 = .ok (.iload_n 1, 1) := by decide +kernel
theorem dX8_init_70 : decode cX8_init 70 = .ok (.bipush 12, 2) := by decide +kernel
theorem dX8_init_72 : decode cX8_init 72 = .ok (.if_icmp .ge 22, 3) := by decide +kernel
theorem dX8_init_75 : decode cX8_init 75 = .ok (.aload_n 0, 1) := by decide +kernel
theorem dX8_init_76 : decode cX8_init 76 = .ok (.getfield 20, 3) := by decide +kernel
theorem dX8_init_79 : decode cX8_init 79 = .ok (.iload_n 1, 1) := by decide +kernel
theorem dX8_init_80 : decode cX8_init 80 = .ok (.new 18, 3) := by decide +kernel
theorem dX8_init_83 : decode cX8_init 83 = .ok (.dup, 1) := by decide +kernel
theorem dX8_init_84 : decode cX8_init 84 = .ok (.invokespecial 49, 3) := by decide +kernel
theorem dX8_init_87 : decode cX8_init 87 = .ok (.aastore, 1) := by decide +kernel
theorem dX8_init_88 : decode cX8_init 88 = .ok (.iinc 1 1, 3) := by decide +kernel
theorem dX8_init_91 : decode cX8_init 91 = .ok (.goto (-22), 3) := by decide +kernel
theorem dX8_init_94 : decode cX8_init 94 = .ok (.iconst 0, 1) := by decide +kernel
theorem dX8_init_95 : decode cX8_init 95 = .ok (.istore_n 1, 1) := by decide +kernel
theorem dX8_init_96 : decode cX8_init 96 = .ok (.iload_n 1, 1) := by decide +kernel
theorem dX8_init_97 : decode cX8_init 97 = .ok (.bipush 6, 2) := by decide +kernel
theorem dX8_init_99 : decode cX8_init 99 = .ok (.if_icmp .ge 22, 3) := by decide +kernel
theorem dX8_init_102 : decode cX8_init 102 = .ok (.aload_n 0, 1) := by decide +kernel
theorem dX8_init_103 : decode cX8_init 103 = .ok (.getfield 30, 3) := by decide +kernel
theorem dX8_init_106 : decode cX8_init 106 = .ok (.iload_n 1, 1) := by decide +kernel
theorem dX8_init_107 : decode cX8_init 107 = .ok (.new 28, 3) := by decide +kernel
theorem dX8_init_110 : decode cX8_init 110 = .ok (.dup, 1) := by decide +kernel
theorem dX8_init_111 : decode cX8_init 111 = .ok (.invokespecial 50, 3) := by decide +kernel
theorem dX8_init_114 : decode cX8_init 114 = .ok (.aastore, 1) := by decide +kernel
theorem dX8_init_115 : decode cX8_init 115 = .ok (.iinc 1 1, 3) := by decide +kernel
theorem dX8_init_118 : decode cX8_init 118 = .ok (.goto (-22), 3) := by decide +kernel
theorem dX8_init_121 : decode cX8_init 121 = .ok (.iconst 0, 1) := by decide +kernel
theorem dX8_init_122 : decode cX8_init 122 = .ok (.istore_n 1, 1) := by decide +kernel
theorem dX8_init_123 : decode cX8_init 123 = .ok (.iload_n 1, 1) := by decide +kernel
theorem dX8_init_124 : decode cX8_init 124 = .ok (.iconst 5, 1) := by decide +kernel
theorem dX8_init_125 : decode cX8_init 125 = .ok (.if_icmp .ge 22, 3) := by decide +kernel
theorem dX8_init_128 : decode cX8_init 128 = .ok (.aload_n 0, 1) := by decide +kernel
theorem dX8_init_129 : decode cX8_init 129 = .ok (.getfield 36, 3) := by decide +kernel
theorem dX8_init_132 : decode cX8_init 132 = .ok (.iload_n 1, 1) := by decide +kernel
theorem dX8_init_133 : decode cX8_init 133 = .ok (.new 34, 3) := by decide +kernel
theorem dX8_init_136 : decode cX8_init 136 = .ok (.dup, 1) := by decide +kernel
theorem dX8_init_137 : decode cX8_init 137 = .ok (.invokespecial 51, 3) := by decide +kernel
theorem dX8_init_140 : decode cX8_init 140 = .ok (.aastore, 1) := by decide +kernel
theorem dX8_init_141 : decode cX8_init 141 = .ok (.iinc 1 1, 3) := by decide +kernel
theorem dX8_init_144 : decode cX8_init 144 = .ok (.goto (-21), 3) := by decide +kernel
theorem dX8_init_147 : decode cX8_init 147 = .ok (.iconst 0, 1) := by decide +kernel
theorem dX8_init_148 : decode cX8_init 148 = .ok (.istore_n 1, 1) := by decide +kernel
theorem dX8_init_149 : decode cX8_init 149 = .ok (.iload_n 1, 1) := by decide +kernel
theorem dX8_init_150 : decode cX8_init 150 = .ok (.bipush 6, 2) := by decide +kernel
theorem dX8_init_152 : decode cX8_init 152 = .ok (.if_icmp .ge 22, 3) := by decide +kernel
theorem dX8_init_155 : decode cX8_init 155 = .ok (.aload_n 0, 1) := by decide +kernel
theorem dX8_init_156 : decode cX8_init 156 = .ok (.getfield 42, 3) := by decide +kernel
theorem dX8_init_159 : decode cX8_init 159 = .ok (.iload_n 1, 1) := by decide +kernel
theorem dX8_init_160 : decode cX8_init 160 = .ok (.new 40, 3) := by decide +kernel
theorem dX8_init_163 : decode cX8_init 163 = .ok (.dup, 1) := by decide +kernel
theorem dX8_init_164 : decode cX8_init 164 = .ok (.invokespecial 52, 3) := by decide +kernel
theorem dX8_init_167 : decode cX8_init 167 = .ok (.aastore, 1) := by decide +kernel
theorem dX8_init_168 : decode cX8_init 168 = .ok (.iinc 1 1, 3) := by decide +kernel
theorem dX8_init_171 : decode cX8_init 171 = .ok (.goto (-22), 3) := by decide +kernel
theorem dX8_init_174 : decode cX8_init 174 = .ok (.return_, 1) := by decide +kernel
abbrev M_X8_init : aM := (yX8_init.cls, cX8_init, 2, none, [], yX8_init.name == "<init>")
abbrev J_X8_init (l : Launch) (E : aE) (n0 m0 : Nat) := GG (fun (_ : Unit) => .inl none) l E M_X8_init 2 50 n0 m0
theorem b_X8_init {l : Launch} {E : aE} (hl : l.stackTraces = false) (n0 m0 : Nat) (x1 : Nat) (h0 : aH) : J_X8_init l E n0 m0 0 [(0, .ref (e_z E + x1))] [] h0 (m_X8_init x1 h0) := by
  unfold m_X8_init
  refine g_aload_n (pc := 0) dX8_init_0 0 rfl ?_
  refine g_objInit (pc := 1) tw85 tw35 tw36 (Nat.le_of_ble_eq_true rfl) (Nat.le_of_ble_eq_true rfl) dX8_init_1 ?_
  refine g_aload_n (pc := 4) dX8_init_4 0 rfl ?_
  refine g_newo (pc := 5) (c := 5) (n := 4) cl5 tw86 tw87 tw4 dX8_init_5 (fun x2 h1 => ?_)
  refine g_dup (pc := 8) rfl dX8_init_8 ?_
  refine g_bRv (pc := 9) (c_IN (p_X5_init hl x2 h1) y_X5_init tw88 dX8_init_9 rfl (st := [.ref (e_z E + x2), .ref (e_z E + x1)]) rfl (Nat.le_of_ble_eq_true rfl) (Nat.le_of_ble_eq_true rfl) (Nat.le_of_ble_eq_true rfl)) (fun _ h2 => ?_)
  refine g_putr (pc := 12) cl8 (Nat.le_of_ble_eq_true rfl) (Or.inr ⟨rfl, rfl, by decide +kernel, tw234⟩) (fun _ _ _ => rfl) (fun _ => ⟨rfl, rfl⟩) dX8_init_12 (fun h3 => ?_)
  refine g_aload_n (pc := 15) dX8_init_15 0 rfl ?_
  refine g_bipush (pc := 16) dX8_init_16 cb_12 ?_
  refine g_newq (pc := 18) (t := 5) (n := 12) (x := (12 : Int32)) (Nat.le_of_ble_eq_true rfl) (Nat.le_of_ble_eq_true rfl) rfl tw107 (by decide) (by decide +kernel) (Nat.le_of_ble_eq_true rfl) dX8_init_18 (fun x3 h4 => ?_)
  refine g_putr (pc := 21) cl8 (Nat.le_of_ble_eq_true rfl) (Or.inr ⟨rfl, rfl, by decide +kernel, tw243⟩) (fun _ _ _ => rfl) (fun _ => ⟨rfl, rfl⟩) dX8_init_21 (fun h5 => ?_)
  refine g_aload_n (pc := 24) dX8_init_24 0 rfl ?_
  refine g_sipush (pc := 25) dX8_init_25 cs_144 ?_
  refine g_newa (pc := 28) (t := 0) (n := 144) (x := (144 : Int32)) at_0 tw134 (by decide +kernel) (Nat.le_of_ble_eq_true rfl) dX8_init_28 (fun x4 h6 => ?_)
  refine g_putr (pc := 30) cl8 (Nat.le_of_ble_eq_true rfl) (Or.inr ⟨rfl, rfl, by decide +kernel, tw249⟩) (fun _ _ _ => rfl) (fun _ => ⟨rfl, rfl⟩) dX8_init_30 (fun h7 => ?_)
  refine g_aload_n (pc := 33) dX8_init_33 0 rfl ?_
  refine g_bipush (pc := 34) dX8_init_34 cb_6 ?_
  refine g_newq (pc := 36) (t := 6) (n := 6) (x := (6 : Int32)) (Nat.le_of_ble_eq_true rfl) (Nat.le_of_ble_eq_true rfl) rfl tw109 (by decide) (by decide +kernel) (Nat.le_of_ble_eq_true rfl) dX8_init_36 (fun x5 h8 => ?_)
  refine g_putr (pc := 39) cl8 (Nat.le_of_ble_eq_true rfl) (Or.inr ⟨rfl, rfl, by decide +kernel, tw256⟩) (fun _ _ _ => rfl) (fun _ => ⟨rfl, rfl⟩) dX8_init_39 (fun h9 => ?_)
  refine g_aload_n (pc := 42) dX8_init_42 0 rfl ?_
  refine g_iconst (pc := 43) dX8_init_43 ci_5 ?_
  refine g_newq (pc := 44) (t := 7) (n := 5) (x := (5 : Int32)) (Nat.le_of_ble_eq_true rfl) (Nat.le_of_ble_eq_true rfl) rfl tw111 (by decide) (by decide +kernel) (Nat.le_of_ble_eq_true rfl) dX8_init_44 (fun x6 h10 => ?_)
  refine g_putr (pc := 47) cl8 (Nat.le_of_ble_eq_true rfl) (Or.inr ⟨rfl, rfl, by decide +kernel, tw264⟩) (fun _ _ _ => rfl) (fun _ => ⟨rfl, rfl⟩) dX8_init_47 (fun h11 => ?_)
  refine g_aload_n (pc := 50) dX8_init_50 0 rfl ?_
  refine g_bipush (pc := 51) dX8_init_51 cb_6 ?_
  refine g_newq (pc := 53) (t := 8) (n := 6) (x := (6 : Int32)) (Nat.le_of_ble_eq_true rfl) (Nat.le_of_ble_eq_true rfl) rfl tw113 (by decide) (by decide +kernel) (Nat.le_of_ble_eq_true rfl) dX8_init_53 (fun x7 h12 => ?_)
  refine g_putr (pc := 56) cl8 (Nat.le_of_ble_eq_true rfl) (Or.inr ⟨rfl, rfl, by decide +kernel, tw271⟩) (fun _ _ _ => rfl) (fun _ => ⟨rfl, rfl⟩) dX8_init_56 (fun h13 => ?_)
  refine g_aload_n (pc := 59) dX8_init_59 0 rfl ?_
  refine g_bipush (pc := 60) dX8_init_60 cb_32 ?_
  refine g_newa (pc := 62) (t := 0) (n := 32) (x := (32 : Int32)) at_0 tw134 (by decide +kernel) (Nat.le_of_ble_eq_true rfl) dX8_init_62 (fun x8 h14 => ?_)
  refine g_putr (pc := 64) cl8 (Nat.le_of_ble_eq_true rfl) (Or.inr ⟨rfl, rfl, by decide +kernel, tw274⟩) (fun _ _ _ => rfl) (fun _ => ⟨rfl, rfl⟩) dX8_init_64 (fun h15 => ?_)
  refine g_iconst (pc := 67) dX8_init_67 ci_0 ?_
  refine g_istore_n (pc := 68) (lv' := [(1, .int (0 : Int32)), (0, .ref (e_z E + x1))]) dX8_init_68 (Nat.le_of_ble_eq_true rfl) rfl ?_
  refine g_join (fun k => ∀ (h16 : aH), J_X8_init l E n0 m0 94 [(0, .ref (e_z E + x1))] [] h16 (k h16)) (fun h16 => ?_) (fun k94 hk94 => ?_)
  · refine g_iconst (pc := 94) dX8_init_94 ci_0 ?_
    refine g_istore_n (pc := 95) (lv' := [(1, .int (0 : Int32)), (0, .ref (e_z E + x1))]) dX8_init_95 (Nat.le_of_ble_eq_true rfl) rfl ?_
    refine g_join (fun k => ∀ (h17 : aH), J_X8_init l E n0 m0 121 [(0, .ref (e_z E + x1))] [] h17 (k h17)) (fun h17 => ?_) (fun k121 hk121 => ?_)
    · refine g_iconst (pc := 121) dX8_init_121 ci_0 ?_
      refine g_istore_n (pc := 122) (lv' := [(1, .int (0 : Int32)), (0, .ref (e_z E + x1))]) dX8_init_122 (Nat.le_of_ble_eq_true rfl) rfl ?_
      refine g_join (fun k => ∀ (h18 : aH), J_X8_init l E n0 m0 147 [(0, .ref (e_z E + x1))] [] h18 (k h18)) (fun h18 => ?_) (fun k147 hk147 => ?_)
      · refine g_iconst (pc := 147) dX8_init_147 ci_0 ?_
        refine g_istore_n (pc := 148) (lv' := [(1, .int (0 : Int32)), (0, .ref (e_z E + x1))]) dX8_init_148 (Nat.le_of_ble_eq_true rfl) rfl ?_
        refine g_join (fun k => ∀ (h19 : aH), J_X8_init l E n0 m0 174 [] [] h19 (k h19)) (fun h19 => ?_) (fun k174 hk174 => ?_)
        · exact g_ret (pc := 174) rfl isRet_v dX8_init_174 rfl
        refine g_lv [1, 0] rfl ?_
        refine g_loop1 (F := (m_X8_init_L149 x1 k174)) (fun x9 => [(0, .ref (e_z E + x1)), (1, .int x9)]) (fun r149 hr149 x9 h20 => ?_) _ _ _
        unfold m_X8_init_L149
        refine g_iload_n (pc := 149) dX8_init_149 1 rfl ?_
        refine g_bipush (pc := 150) dX8_init_150 cb_6 ?_
        refine g_icmpge (pc := 152) (tgt := 174) dX8_init_152 rfl ?_ ?_
        · refine g_aload_n (pc := 155) dX8_init_155 0 rfl ?_
          refine g_getr (pc := 156) cl8 (Nat.le_of_ble_eq_true rfl) fk271 (fun _ _ _ => rfl) dX8_init_156 (fun x10 => ?_)
          refine g_iload_n (pc := 159) dX8_init_159 1 rfl ?_
          refine g_newo (pc := 160) (c := 3) (n := 8) cl3 tw113 tw192 tw8 dX8_init_160 (fun x11 h21 => ?_)
          refine g_dup (pc := 163) rfl dX8_init_163 ?_
          refine g_bRv (pc := 164) (c_IN (p_X3_init hl x11 h21) y_X3_init tw193 dX8_init_164 rfl (st := [.ref (e_z E + x11), .int x9, .ref (e_z E + x10)]) rfl (Nat.le_of_ble_eq_true rfl) (Nat.le_of_ble_eq_true rfl) (Nat.le_of_ble_eq_true rfl)) (fun _ h22 => ?_)
          refine g_aast (pc := 167) (t := 8) (c := 3) (Nat.le_of_ble_eq_true rfl) (Nat.le_of_ble_eq_true rfl) cl3 rfl dX8_init_167 (fun h23 => ?_)
          refine g_iincN (pc := 168) dX8_init_168 1 rfl ci_1 (Nat.le_of_ble_eq_true rfl) (fun x12 => ?_)
          refine g_lvr (lv' := [(1, .int x12), (0, .ref (e_z E + x1))]) rfl ?_
          refine g_goto (pc := 171) (tgt := 149) dX8_init_171 rfl ?_
          refine g_lv [1, 0] rfl ?_
          exact hr149 x12 h23
        · refine g_lv [] rfl ?_
          exact hk174 h20
      refine g_lv [1, 0] rfl ?_
      refine g_loop1 (F := (m_X8_init_L123 x1 k147)) (fun x13 => [(0, .ref (e_z E + x1)), (1, .int x13)]) (fun r123 hr123 x13 h24 => ?_) _ _ _
      unfold m_X8_init_L123
      refine g_iload_n (pc := 123) dX8_init_123 1 rfl ?_
      refine g_iconst (pc := 124) dX8_init_124 ci_5 ?_
      refine g_icmpge (pc := 125) (tgt := 147) dX8_init_125 rfl ?_ ?_
      · refine g_aload_n (pc := 128) dX8_init_128 0 rfl ?_
        refine g_getr (pc := 129) cl8 (Nat.le_of_ble_eq_true rfl) fk264 (fun _ _ _ => rfl) dX8_init_129 (fun x14 => ?_)
        refine g_iload_n (pc := 132) dX8_init_132 1 rfl ?_
        refine g_newo (pc := 133) (c := 1) (n := 5) cl1 tw111 tw163 tw7 dX8_init_133 (fun x15 h25 => ?_)
        refine g_dup (pc := 136) rfl dX8_init_136 ?_
        refine g_bRv (pc := 137) (c_IN (p_X1_init hl x15 h25) y_X1_init tw164 dX8_init_137 rfl (st := [.ref (e_z E + x15), .int x13, .ref (e_z E + x14)]) rfl (Nat.le_of_ble_eq_true rfl) (Nat.le_of_ble_eq_true rfl) (Nat.le_of_ble_eq_true rfl)) (fun _ h26 => ?_)
        refine g_aast (pc := 140) (t := 7) (c := 1) (Nat.le_of_ble_eq_true rfl) (Nat.le_of_ble_eq_true rfl) cl1 rfl dX8_init_140 (fun h27 => ?_)
        refine g_iincN (pc := 141) dX8_init_141 1 rfl ci_1 (Nat.le_of_ble_eq_true rfl) (fun x16 => ?_)
        refine g_lvr (lv' := [(1, .int x16), (0, .ref (e_z E + x1))]) rfl ?_
        refine g_goto (pc := 144) (tgt := 123) dX8_init_144 rfl ?_
        refine g_lv [1, 0] rfl ?_
        exact hr123 x16 h27
      · refine g_lv [0] rfl ?_
        exact hk147 h24
    refine g_lv [1, 0] rfl ?_
    refine g_loop1 (F := (m_X8_init_L96 x1 k121)) (fun x17 => [(0, .ref (e_z E + x1)), (1, .int x17)]) (fun r96 hr96 x17 h28 => ?_) _ _ _
    unfold m_X8_init_L96
    refine g_iload_n (pc := 96) dX8_init_96 1 rfl ?_
    refine g_bipush (pc := 97) dX8_init_97 cb_6 ?_
    refine g_icmpge (pc := 99) (tgt := 121) dX8_init_99 rfl ?_ ?_
    · refine g_aload_n (pc := 102) dX8_init_102 0 rfl ?_
      refine g_getr (pc := 103) cl8 (Nat.le_of_ble_eq_true rfl) fk256 (fun _ _ _ => rfl) dX8_init_103 (fun x18 => ?_)
      refine g_iload_n (pc := 106) dX8_init_106 1 rfl ?_
      refine g_newo (pc := 107) (c := 6) (n := 5) cl6 tw109 tw135 tw6 dX8_init_107 (fun x19 h29 => ?_)
      refine g_dup (pc := 110) rfl dX8_init_110 ?_
      refine g_bRv (pc := 111) (c_IN (p_X6_init hl x19 h29) y_X6_init tw136 dX8_init_111 rfl (st := [.ref (e_z E + x19), .int x17, .ref (e_z E + x18)]) rfl (Nat.le_of_ble_eq_true rfl) (Nat.le_of_ble_eq_true rfl) (Nat.le_of_ble_eq_true rfl)) (fun _ h30 => ?_)
      refine g_aast (pc := 114) (t := 6) (c := 6) (Nat.le_of_ble_eq_true rfl) (Nat.le_of_ble_eq_true rfl) cl6 rfl dX8_init_114 (fun h31 => ?_)
      refine g_iincN (pc := 115) dX8_init_115 1 rfl ci_1 (Nat.le_of_ble_eq_true rfl) (fun x20 => ?_)
      refine g_lvr (lv' := [(1, .int x20), (0, .ref (e_z E + x1))]) rfl ?_
      refine g_goto (pc := 118) (tgt := 96) dX8_init_118 rfl ?_
      refine g_lv [1, 0] rfl ?_
      exact hr96 x20 h31
    · refine g_lv [0] rfl ?_
      exact hk121 h28
  refine g_lv [1, 0] rfl ?_
  refine g_loop1 (F := (m_X8_init_L69 x1 k94)) (fun x21 => [(0, .ref (e_z E + x1)), (1, .int x21)]) (fun r69 hr69 x21 h32 => ?_) _ _ _
  unfold m_X8_init_L69
  refine g_iload_n (pc := 69) dX8_init_69 1 rfl ?_
  refine g_bipush (pc := 70) dX8_init_70 cb_12 ?_
  refine g_icmpge (pc := 72) (tgt := 94) dX8_init_72 rfl ?_ ?_
  · refine g_aload_n (pc := 75) dX8_init_75 0 rfl ?_
    refine g_getr (pc := 76) cl8 (Nat.le_of_ble_eq_true rfl) fk243 (fun _ _ _ => rfl) dX8_init_76 (fun x22 => ?_)
    refine g_iload_n (pc := 79) dX8_init_79 1 rfl ?_
    refine g_newo (pc := 80) (c := 7) (n := 3) cl7 tw107 tw115 tw5 dX8_init_80 (fun x23 h33 => ?_)
    refine g_dup (pc := 83) rfl dX8_init_83 ?_
    refine g_bRv (pc := 84) (c_IN (p_X7_init hl x23 h33) y_X7_init tw116 dX8_init_84 rfl (st := [.ref (e_z E + x23), .int x21, .ref (e_z E + x22)]) rfl (Nat.le_of_ble_eq_true rfl) (Nat.le_of_ble_eq_true rfl) (Nat.le_of_ble_eq_true rfl)) (fun _ h34 => ?_)
    refine g_aast (pc := 87) (t := 5) (c := 7) (Nat.le_of_ble_eq_true rfl) (Nat.le_of_ble_eq_true rfl) cl7 rfl dX8_init_87 (fun h35 => ?_)
    refine g_iincN (pc := 88) dX8_init_88 1 rfl ci_1 (Nat.le_of_ble_eq_true rfl) (fun x24 => ?_)
    refine g_lvr (lv' := [(1, .int x24), (0, .ref (e_z E + x1))]) rfl ?_
    refine g_goto (pc := 91) (tgt := 69) dX8_init_91 rfl ?_
    refine g_lv [1, 0] rfl ?_
    exact hr69 x24 h35
  · refine g_lv [0] rfl ?_
    exact hk94 h32
theorem p_X8_init {l : Launch} {E : aE} (hl : l.stackTraces = false) (x1 : Nat) (h0 : aH) : MO (fun (_ : Unit) => .inl none) l E yX8_init (.code yX8_init cX8_init 2 none) 2 50 [.ref (e_z E + x1)] h0 (m_X8_init x1 h0) := g_met hl (by decide +kernel) (Nat.le_of_ble_eq_true rfl) (b_X8_init hl _ _ x1 h0)
theorem dX8_clear_0 : decode cX8_clear 0 = .ok (.aload_n 0, 1) := by decide +kernel
theorem dX8_clear_1 : decode cX8_clear 1 = .ok (.iconst 0, 1) := by decide +kernel
theorem dX8_clear_2 : decode cX8_clear 2 = .ok (.putfield 53, 3) := by decide +kernel
theorem dX8_clear_5 : decode cX8_clear 5 = .ok (.aload_n 0, 1) := by decide +kernel
theorem dX8_clear_6 : decode cX8_clear 6 = .ok (.iconst 0, 1) := by decide +kernel
theorem dX8_clear_7 : decode cX8_clear 7 = .ok (.putfield 57, 3) := by decide +kernel
theorem dX8_clear_10 : decode cX8_clear 10 = .ok (.aload_n 0, 1) := by decide +kernel
theorem dX8_clear_11 : decode cX8_clear 11 = .ok (.getfield 24, 3) := by decide +kernel
theorem dX8_clear_14 : decode cX8_clear 14 = .ok (.iconst (-1), 1) := by decide +kernel
theorem dX8_clear_15 : decode cX8_clear 15 = .ok (.invokestatic 60, 3) := by decide +kernel
theorem dX8_clear_18 : decode cX8_clear 18 = .ok (.aload_n 0, 1) := by decide +kernel
theorem dX8_clear_19 : decode cX8_clear 19 = .ok (.iconst 0, 1) := by decide +kernel
theorem dX8_clear_20 : decode cX8_clear 20 = .ok (.putfield 66, 3) := by decide +kernel
theorem dX8_clear_23 : decode cX8_clear 23 = .ok (.aload_n 0, 1) := by decide +kernel
theorem dX8_clear_24 : decode cX8_clear 24 = .ok (.iconst 0, 1) := by decide +kernel
theorem dX8_clear_25 : decode cX8_clear 25 = .ok (.putfield 69, 3) := by decide +kernel
theorem dX8_clear_28 : decode cX8_clear 28 = .ok (.aload_n 0, 1) := by decide +kernel
theorem dX8_clear_29 : decode cX8_clear 29 = .ok (.iconst 0, 1) := by decide +kernel
theorem dX8_clear_30 : decode cX8_clear 30 = .ok (.putfield 72, 3) := by decide +kernel
theorem dX8_clear_33 : decode cX8_clear 33 = .ok (.aload_n 0, 1) := by decide +kernel
theorem dX8_clear_34 : decode cX8_clear 34 = .ok (.getfield 46, 3) := by decide +kernel
theorem dX8_clear_37 : decode cX8_clear 37 = .ok (.iconst 0, 1) := by decide +kernel
theorem dX8_clear_38 : decode cX8_clear 38 = .ok (.invokestatic 60, 3) := by decide +kernel
theorem dX8_clear_41 : decode cX8_clear 41 = .ok (.return_, 1) := by decide +kernel
abbrev M_X8_clear : aM := (yX8_clear.cls, cX8_clear, 1, none, [], yX8_clear.name == "<init>")
abbrev J_X8_clear (l : Launch) (E : aE) (n0 m0 : Nat) := GG (fun (_ : Unit) => .inl none) l E M_X8_clear 1 23 n0 m0
theorem b_X8_clear {l : Launch} {E : aE} (hl : l.stackTraces = false) (n0 m0 : Nat) (x1 : Nat) (h0 : aH) : J_X8_clear l E n0 m0 0 [(0, .ref (e_z E + x1))] [] h0 (m_X8_clear x1 h0) := by
  unfold m_X8_clear
  refine g_aload_n (pc := 0) dX8_clear_0 0 rfl ?_
  refine g_iconst (pc := 1) dX8_clear_1 ci_0 ?_
  refine g_puti (pc := 2) cl8 (Nat.le_of_ble_eq_true rfl) (Or.inl ⟨rfl, fk238⟩) (fun _ _ _ => rfl) (fun _ => ⟨rfl, rfl⟩) dX8_clear_2 (fun h1 => ?_)
  refine g_aload_n (pc := 5) dX8_clear_5 0 rfl ?_
  refine g_iconst (pc := 6) dX8_clear_6 ci_0 ?_
  refine g_puti (pc := 7) cl8 (Nat.le_of_ble_eq_true rfl) (Or.inl ⟨rfl, fk247⟩) (fun _ _ _ => rfl) (fun _ => ⟨rfl, rfl⟩) dX8_clear_7 (fun h2 => ?_)
  refine g_aload_n (pc := 10) dX8_clear_10 0 rfl ?_
  refine g_getr (pc := 11) cl8 (Nat.le_of_ble_eq_true rfl) fk249 (fun _ _ _ => rfl) dX8_clear_11 (fun x2 => ?_)
  refine g_iconst (pc := 14) dX8_clear_14 ci_m1 ?_
  refine g_bRv (pc := 15) (c_S (p_J7_fill_53178 hl x2 (-1 : Int32) h2) y_J7_fill_53178 tw657 dX8_clear_15 rfl (st := []) rfl (Nat.le_of_ble_eq_true rfl) (Nat.le_of_ble_eq_true rfl) (Nat.le_of_ble_eq_true rfl)) (fun _ h3 => ?_)
  refine g_aload_n (pc := 18) dX8_clear_18 0 rfl ?_
  refine g_iconst (pc := 19) dX8_clear_19 ci_0 ?_
  refine g_puti (pc := 20) cl8 (Nat.le_of_ble_eq_true rfl) (Or.inl ⟨rfl, fk252⟩) (fun _ _ _ => rfl) (fun _ => ⟨rfl, rfl⟩) dX8_clear_20 (fun h4 => ?_)
  refine g_aload_n (pc := 23) dX8_clear_23 0 rfl ?_
  refine g_iconst (pc := 24) dX8_clear_24 ci_0 ?_
  refine g_puti (pc := 25) cl8 (Nat.le_of_ble_eq_true rfl) (Or.inl ⟨rfl, fk260⟩) (fun _ _ _ => rfl) (fun _ => ⟨rfl, rfl⟩) dX8_clear_25 (fun h5 => ?_)
  refine g_aload_n (pc := 28) dX8_clear_28 0 rfl ?_
  refine g_iconst (pc := 29) dX8_clear_29 ci_0 ?_
  refine g_puti (pc := 30) cl8 (Nat.le_of_ble_eq_true rfl) (Or.inl ⟨rfl, fk268⟩) (fun _ _ _ => rfl) (fun _ => ⟨rfl, rfl⟩) dX8_clear_30 (fun h6 => ?_)
  refine g_aload_n (pc := 33) dX8_clear_33 0 rfl ?_
  refine g_getr (pc := 34) cl8 (Nat.le_of_ble_eq_true rfl) fk274 (fun _ _ _ => rfl) dX8_clear_34 (fun x3 => ?_)
  refine g_iconst (pc := 37) dX8_clear_37 ci_0 ?_
  refine g_bRv (pc := 38) (c_S (p_J7_fill_53178 hl x3 (0 : Int32) h6) y_J7_fill_53178 tw657 dX8_clear_38 rfl (st := []) rfl (Nat.le_of_ble_eq_true rfl) (Nat.le_of_ble_eq_true rfl) (Nat.le_of_ble_eq_true rfl)) (fun _ h7 => ?_)
  exact g_ret (pc := 41) rfl isRet_v dX8_clear_41 rfl
theorem p_X8_clear {l : Launch} {E : aE} (hl : l.stackTraces = false) (x1 : Nat) (h0 : aH) : MO (fun (_ : Unit) => .inl none) l E yX8_clear (.code yX8_clear cX8_clear 1 none) 1 23 [.ref (e_z E + x1)] h0 (m_X8_clear x1 h0) := g_met hl (by decide +kernel) (Nat.le_of_ble_eq_true rfl) (b_X8_clear hl _ _ x1 h0)
theorem dX8_sizeOf_0 : decode cX8_sizeOf 0 = .ok (.iload_n 1, 1) := by decide +kernel
theorem dX8_sizeOf_1 : decode cX8_sizeOf 1 = .ok (.tableswitch 42 0 2 #[27, 32, 37], 27) := by decide +kernel
theorem dX8_sizeOf_28 : decode cX8_sizeOf 28 = .ok (.aload_n 0, 1) := by decide +kernel
theorem dX8_sizeOf_29 : decode cX8_sizeOf 29 = .ok (.getfield 53, 3) := by decide +kernel
theorem dX8_sizeOf_32 : decode cX8_sizeOf 32 = .ok (.ireturn, 1) := by decide +kernel
theorem dX8_sizeOf_33 : decode cX8_sizeOf 33 = .ok (.aload_n 0, 1) := by decide +kernel
theorem dX8_sizeOf_34 : decode cX8_sizeOf 34 = .ok (.getfield 66, 3) := by decide +kernel
theorem dX8_sizeOf_37 : decode cX8_sizeOf 37 = .ok (.ireturn, 1) := by decide +kernel
theorem dX8_sizeOf_38 : decode cX8_sizeOf 38 = .ok (.aload_n 0, 1) := by decide +kernel
theorem dX8_sizeOf_39 : decode cX8_sizeOf 39 = .ok (.getfield 69, 3) := by decide +kernel
theorem dX8_sizeOf_42 : decode cX8_sizeOf 42 = .ok (.ireturn, 1) := by decide +kernel
theorem dX8_sizeOf_43 : decode cX8_sizeOf 43 = .ok (.aload_n 0, 1) := by decide +kernel
theorem dX8_sizeOf_44 : decode cX8_sizeOf 44 = .ok (.getfield 72, 3) := by decide +kernel
theorem dX8_sizeOf_47 : decode cX8_sizeOf 47 = .ok (.ireturn, 1) := by decide +kernel
abbrev M_X8_sizeOf : aM := (yX8_sizeOf.cls, cX8_sizeOf, 2, (some .int), [], yX8_sizeOf.name == "<init>")
abbrev J_X8_sizeOf (l : Launch) (E : aE) (n0 m0 : Nat) := GG (fun (v : Int32) => .inl (some (.int v))) l E M_X8_sizeOf 0 0 n0 m0
theorem b_X8_sizeOf {l : Launch} {E : aE} (hl : l.stackTraces = false) (n0 m0 : Nat) (x1 : Nat) (x2 : Int32) (h0 : aH) : J_X8_sizeOf l E n0 m0 0 [(0, .ref (e_z E + x1)), (1, .int x2)] [] h0 (m_X8_sizeOf x1 x2 h0) := by
  unfold m_X8_sizeOf
  refine g_iload_n (pc := 0) dX8_sizeOf_0 1 rfl ?_
  refine g_swI (fun e0 => ?_) (fun e0 => ?_)
  · refine g_swIn (pc := 1) (tgt := 28) (off := 27) dX8_sizeOf_1 (by omega) (by omega) (by rw [e0]; rfl) rfl ?_
    refine g_aload_n (pc := 28) dX8_sizeOf_28 0 rfl ?_
    refine g_geti (pc := 29) cl8 (Nat.le_of_ble_eq_true rfl) fk238 (fun _ _ _ => rfl) dX8_sizeOf_29 (fun x3 => ?_)
    exact g_ret (pc := 32) rfl (isRet_i _) dX8_sizeOf_32 rfl
  refine g_swI (fun e1 => ?_) (fun e1 => ?_)
  · refine g_swIn (pc := 1) (tgt := 33) (off := 32) dX8_sizeOf_1 (by omega) (by omega) (by rw [e1]; rfl) rfl ?_
    refine g_aload_n (pc := 33) dX8_sizeOf_33 0 rfl ?_
    refine g_geti (pc := 34) cl8 (Nat.le_of_ble_eq_true rfl) fk252 (fun _ _ _ => rfl) dX8_sizeOf_34 (fun x4 => ?_)
    exact g_ret (pc := 37) rfl (isRet_i _) dX8_sizeOf_37 rfl
  refine g_swI (fun e2 => ?_) (fun e2 => ?_)
  · refine g_swIn (pc := 1) (tgt := 38) (off := 37) dX8_sizeOf_1 (by omega) (by omega) (by rw [e2]; rfl) rfl ?_
    refine g_aload_n (pc := 38) dX8_sizeOf_38 0 rfl ?_
    refine g_geti (pc := 39) cl8 (Nat.le_of_ble_eq_true rfl) fk260 (fun _ _ _ => rfl) dX8_sizeOf_39 (fun x5 => ?_)
    exact g_ret (pc := 42) rfl (isRet_i _) dX8_sizeOf_42 rfl
  refine g_swOut (pc := 1) (tgt := 43) dX8_sizeOf_1 (by omega) rfl ?_
  refine g_aload_n (pc := 43) dX8_sizeOf_43 0 rfl ?_
  refine g_geti (pc := 44) cl8 (Nat.le_of_ble_eq_true rfl) fk268 (fun _ _ _ => rfl) dX8_sizeOf_44 (fun x6 => ?_)
  exact g_ret (pc := 47) rfl (isRet_i _) dX8_sizeOf_47 rfl
theorem p_X8_sizeOf {l : Launch} {E : aE} (hl : l.stackTraces = false) (x1 : Nat) (x2 : Int32) (h0 : aH) : MO (fun (v : Int32) => .inl (some (.int v))) l E yX8_sizeOf (.code yX8_sizeOf cX8_sizeOf 2 (some .int)) 0 0 [.ref (e_z E + x1), .int x2] h0 (m_X8_sizeOf x1 x2 h0) := g_met hl (by decide +kernel) (Nat.le_of_ble_eq_true rfl) (b_X8_sizeOf hl _ _ x1 x2 h0)
theorem dX8_nameOf_0 : decode cX8_nameOf 0 = .ok (.iload_n 1, 1) := by decide +kernel
theorem dX8_nameOf_1 : decode cX8_nameOf 1 = .ok (.tableswitch 57 0 2 #[27, 37, 47], 27) := by decide +kernel
theorem dX8_nameOf_28 : decode cX8_nameOf 28 = .ok (.aload_n 0, 1) := by decide +kernel
theorem dX8_nameOf_29 : decode cX8_nameOf 29 = .ok (.getfield 20, 3) := by decide +kernel
theorem dX8_nameOf_32 : decode cX8_nameOf 32 = .ok (.iload_n 2, 1) := by decide +kernel
theorem dX8_nameOf_33 : decode cX8_nameOf 33 = .ok (.aaload, 1) := by decide +kernel
theorem dX8_nameOf_34 : decode cX8_nameOf 34 = .ok (.getfield 75, 3) := by decide +kernel
theorem dX8_nameOf_37 : decode cX8_nameOf 37 = .ok (.lreturn, 1) := by decide +kernel
theorem dX8_nameOf_38 : decode cX8_nameOf 38 = .ok (.aload_n 0, 1) := by decide +kernel
theorem dX8_nameOf_39 : decode cX8_nameOf 39 = .ok (.getfield 30, 3) := by decide +kernel
theorem dX8_nameOf_42 : decode cX8_nameOf 42 = .ok (.iload_n 2, 1) := by decide +kernel
theorem dX8_nameOf_43 : decode cX8_nameOf 43 = .ok (.aaload, 1) := by decide +kernel
theorem dX8_nameOf_44 : decode cX8_nameOf 44 = .ok (.getfield 79, 3) := by decide +kernel
theorem dX8_nameOf_47 : decode cX8_nameOf 47 = .ok (.lreturn, 1) := by decide +kernel
theorem dX8_nameOf_48 : decode cX8_nameOf 48 = .ok (.aload_n 0, 1) := by decide +kernel
theorem dX8_nameOf_49 : decode cX8_nameOf 49 = .ok (.getfield 36, 3) := by decide +kernel
theorem dX8_nameOf_52 : decode cX8_nameOf 52 = .ok (.iload_n 2, 1) := by decide +kernel
theorem dX8_nameOf_53 : decode cX8_nameOf 53 = .ok (.aaload, 1) := by decide +kernel
theorem dX8_nameOf_54 : decode cX8_nameOf 54 = .ok (.getfield 80, 3) := by decide +kernel
theorem dX8_nameOf_57 : decode cX8_nameOf 57 = .ok (.lreturn, 1) := by decide +kernel
theorem dX8_nameOf_58 : decode cX8_nameOf 58 = .ok (.aload_n 0, 1) := by decide +kernel
theorem dX8_nameOf_59 : decode cX8_nameOf 59 = .ok (.getfield 42, 3) := by decide +kernel
theorem dX8_nameOf_62 : decode cX8_nameOf 62 = .ok (.iload_n 2, 1) := by decide +kernel
theorem dX8_nameOf_63 : decode cX8_nameOf 63 = .ok (.aaload, 1) := by decide +kernel
theorem dX8_nameOf_64 : decode cX8_nameOf 64 = .ok (.getfield 81, 3) := by decide +kernel
theorem dX8_nameOf_67 : decode cX8_nameOf 67 = .ok (.lreturn, 1) := by decide +kernel
abbrev M_X8_nameOf : aM := (yX8_nameOf.cls, cX8_nameOf, 3, (some .long), [], yX8_nameOf.name == "<init>")
abbrev J_X8_nameOf (l : Launch) (E : aE) (n0 m0 : Nat) := GG (fun (v : Int64) => .inl (some (.long v))) l E M_X8_nameOf 0 0 n0 m0
theorem b_X8_nameOf {l : Launch} {E : aE} (hl : l.stackTraces = false) (n0 m0 : Nat) (x1 : Nat) (x2 : Int32) (x3 : Int32) (h0 : aH) : J_X8_nameOf l E n0 m0 0 [(0, .ref (e_z E + x1)), (1, .int x2), (2, .int x3)] [] h0 (m_X8_nameOf x1 x2 x3 h0) := by
  unfold m_X8_nameOf
  refine g_iload_n (pc := 0) dX8_nameOf_0 1 rfl ?_
  refine g_swI (fun e0 => ?_) (fun e0 => ?_)
  · refine g_swIn (pc := 1) (tgt := 28) (off := 27) dX8_nameOf_1 (by omega) (by omega) (by rw [e0]; rfl) rfl ?_
    refine g_aload_n (pc := 28) dX8_nameOf_28 0 rfl ?_
    refine g_getr (pc := 29) cl8 (Nat.le_of_ble_eq_true rfl) fk243 (fun _ _ _ => rfl) dX8_nameOf_29 (fun x4 => ?_)
    refine g_iload_n (pc := 32) dX8_nameOf_32 2 rfl ?_
    refine g_aald (pc := 33) (t := 5) (Nat.le_of_ble_eq_true rfl) (Nat.le_of_ble_eq_true rfl) dX8_nameOf_33 (fun x5 => ?_)
    refine g_getl (pc := 34) cl7 (Nat.le_of_ble_eq_true rfl) fk120 (fun _ _ _ => rfl) dX8_nameOf_34 (fun x6 => ?_)
    exact g_ret (pc := 37) rfl (isRet_l _) dX8_nameOf_37 rfl
  refine g_swI (fun e1 => ?_) (fun e1 => ?_)
  · refine g_swIn (pc := 1) (tgt := 38) (off := 37) dX8_nameOf_1 (by omega) (by omega) (by rw [e1]; rfl) rfl ?_
    refine g_aload_n (pc := 38) dX8_nameOf_38 0 rfl ?_
    refine g_getr (pc := 39) cl8 (Nat.le_of_ble_eq_true rfl) fk256 (fun _ _ _ => rfl) dX8_nameOf_39 (fun x7 => ?_)
    refine g_iload_n (pc := 42) dX8_nameOf_42 2 rfl ?_
    refine g_aald (pc := 43) (t := 6) (Nat.le_of_ble_eq_true rfl) (Nat.le_of_ble_eq_true rfl) dX8_nameOf_43 (fun x8 => ?_)
    refine g_getl (pc := 44) cl6 (Nat.le_of_ble_eq_true rfl) fk140 (fun _ _ _ => rfl) dX8_nameOf_44 (fun x9 => ?_)
    exact g_ret (pc := 47) rfl (isRet_l _) dX8_nameOf_47 rfl
  refine g_swI (fun e2 => ?_) (fun e2 => ?_)
  · refine g_swIn (pc := 1) (tgt := 48) (off := 47) dX8_nameOf_1 (by omega) (by omega) (by rw [e2]; rfl) rfl ?_
    refine g_aload_n (pc := 48) dX8_nameOf_48 0 rfl ?_
    refine g_getr (pc := 49) cl8 (Nat.le_of_ble_eq_true rfl) fk264 (fun _ _ _ => rfl) dX8_nameOf_49 (fun x10 => ?_)
    refine g_iload_n (pc := 52) dX8_nameOf_52 2 rfl ?_
    refine g_aald (pc := 53) (t := 7) (Nat.le_of_ble_eq_true rfl) (Nat.le_of_ble_eq_true rfl) dX8_nameOf_53 (fun x11 => ?_)
    refine g_getl (pc := 54) cl1 (Nat.le_of_ble_eq_true rfl) fk168 (fun _ _ _ => rfl) dX8_nameOf_54 (fun x12 => ?_)
    exact g_ret (pc := 57) rfl (isRet_l _) dX8_nameOf_57 rfl
  refine g_swOut (pc := 1) (tgt := 58) dX8_nameOf_1 (by omega) rfl ?_
  refine g_aload_n (pc := 58) dX8_nameOf_58 0 rfl ?_
  refine g_getr (pc := 59) cl8 (Nat.le_of_ble_eq_true rfl) fk271 (fun _ _ _ => rfl) dX8_nameOf_59 (fun x13 => ?_)
  refine g_iload_n (pc := 62) dX8_nameOf_62 2 rfl ?_
  refine g_aald (pc := 63) (t := 8) (Nat.le_of_ble_eq_true rfl) (Nat.le_of_ble_eq_true rfl) dX8_nameOf_63 (fun x14 => ?_)
  refine g_getl (pc := 64) cl3 (Nat.le_of_ble_eq_true rfl) fk197 (fun _ _ _ => rfl) dX8_nameOf_64 (fun x15 => ?_)
  exact g_ret (pc := 67) rfl (isRet_l _) dX8_nameOf_67 rfl
theorem p_X8_nameOf {l : Launch} {E : aE} (hl : l.stackTraces = false) (x1 : Nat) (x2 : Int32) (x3 : Int32) (h0 : aH) : MO (fun (v : Int64) => .inl (some (.long v))) l E yX8_nameOf (.code yX8_nameOf cX8_nameOf 3 (some .long)) 0 0 [.ref (e_z E + x1), .int x2, .int x3] h0 (m_X8_nameOf x1 x2 x3 h0) := g_met hl (by decide +kernel) (Nat.le_of_ble_eq_true rfl) (b_X8_nameOf hl _ _ x1 x2 x3 h0)
theorem dX8_numberOf_0 : decode cX8_numberOf 0 = .ok (.iconst 0, 1) := by decide +kernel
theorem dX8_numberOf_1 : decode cX8_numberOf 1 = .ok (.istore 4, 2) := by decide +kernel
theorem dX8_numberOf_3 : decode cX8_numberOf 3 = .ok (.iload 4, 2) := by decide +kernel
theorem dX8_numberOf_5 : decode cX8_numberOf 5 = .ok (.aload_n 0, 1) := by decide +kernel
theorem dX8_numberOf_6 : decode cX8_numberOf 6 = .ok (.iload_n 1, 1) := by decide +kernel
theorem dX8_numberOf_7 : decode cX8_numberOf 7 = .ok (.invokevirtual 82, 3) := by decide +kernel
theorem dX8_numberOf_10 : decode cX8_numberOf 10 = .ok (.if_icmp .ge 24, 3) := by decide +kernel
theorem dX8_numberOf_13 : decode cX8_numberOf 13 = .ok (.aload_n 0, 1) := by decide +kernel
theorem dX8_numberOf_14 : decode cX8_numberOf 14 = .ok (.iload_n 1, 1) := by decide +kernel
theorem dX8_numberOf_15 : decode cX8_numberOf 15 = .ok (.iload 4, 2) := by decide +kernel
theorem dX8_numberOf_17 : decode cX8_numberOf 17 = .ok (.invokevirtual 86, 3) := by decide +kernel
theorem dX8_numberOf_20 : decode cX8_numberOf 20 = .ok (.lload_n 2, 1) := by decide +kernel
theorem dX8_numberOf_21 : decode cX8_numberOf 21 = .ok (.lcmp, 1) := by decide +kernel
theorem dX8_numberOf_22 : decode cX8_numberOf 22 = .ok (.ifCond .ne 6, 3) := by decide +kernel
theorem dX8_numberOf_25 : decode cX8_numberOf 25 = .ok (.iload 4, 2) := by decide +kernel
theorem dX8_numberOf_27 : decode cX8_numberOf 27 = .ok (.ireturn, 1) := by decide +kernel
theorem dX8_numberOf_28 : decode cX8_numberOf 28 = .ok (.iinc 4 1, 3) := by decide +kernel
theorem dX8_numberOf_31 : decode cX8_numberOf 31 = .ok (.goto (-28), 3) := by decide +kernel
theorem dX8_numberOf_34 : decode cX8_numberOf 34 = .ok (.iconst (-1), 1) := by decide +kernel
theorem dX8_numberOf_35 : decode cX8_numberOf 35 = .ok (.ireturn, 1) := by decide +kernel
abbrev M_X8_numberOf : aM := (yX8_numberOf.cls, cX8_numberOf, 5, (some .int), [], yX8_numberOf.name == "<init>")
abbrev J_X8_numberOf (l : Launch) (E : aE) (n0 m0 : Nat) := GG (fun (v : Int32) => .inl (some (.int v))) l E M_X8_numberOf 1 22 n0 m0
theorem b_X8_numberOf {l : Launch} {E : aE} (hl : l.stackTraces = false) (n0 m0 : Nat) (x1 : Nat) (x2 : Int32) (x3 : Int64) (h0 : aH) : J_X8_numberOf l E n0 m0 0 [(0, .ref (e_z E + x1)), (1, .int x2), (2, .long x3)] [] h0 (m_X8_numberOf x1 x2 x3 h0) := by
  unfold m_X8_numberOf
  refine g_iconst (pc := 0) dX8_numberOf_0 ci_0 ?_
  refine g_istore (pc := 1) (lv' := [(4, .int (0 : Int32)), (0, .ref (e_z E + x1)), (1, .int x2), (2, .long x3)]) dX8_numberOf_1 (Nat.le_of_ble_eq_true rfl) rfl ?_
  refine g_join (fun k => ∀ (h1 : aH), J_X8_numberOf l E n0 m0 34 [] [] h1 (k h1)) (fun h1 => ?_) (fun k34 hk34 => ?_)
  · refine g_iconst (pc := 34) dX8_numberOf_34 ci_m1 ?_
    exact g_ret (pc := 35) rfl (isRet_i _) dX8_numberOf_35 rfl
  refine g_join (fun k => ∀ (x4 : Int32) (h2 : aH), J_X8_numberOf l E n0 m0 25 [(4, .int x4)] [] h2 (k x4 h2)) (fun x4 h2 => ?_) (fun k25 hk25 => ?_)
  · refine g_iload (pc := 25) dX8_numberOf_25 0 rfl ?_
    exact g_ret (pc := 27) rfl (isRet_i _) dX8_numberOf_27 rfl
  refine g_lv [1, 2, 3, 0] rfl ?_
  refine g_loop1 (F := (m_X8_numberOf_L3 x1 x2 x3 k34 k25)) (fun x5 => [(0, .ref (e_z E + x1)), (1, .int x2), (2, .long x3), (4, .int x5)]) (fun r3 hr3 x5 h3 => ?_) _ _ _
  unfold m_X8_numberOf_L3
  refine g_iload (pc := 3) dX8_numberOf_3 3 rfl ?_
  refine g_aload_n (pc := 5) dX8_numberOf_5 0 rfl ?_
  refine g_iload_n (pc := 6) dX8_numberOf_6 1 rfl ?_
  refine g_gS (fun hs => ?_)
  refine g_bRi (pc := 7) (c_V cl8 hs (p_X8_sizeOf hl x1 x2 h3) y_X8_sizeOf tw777 dX8_numberOf_7 rfl (st := [.int x5]) rfl (Nat.le_of_ble_eq_true rfl) (Nat.le_of_ble_eq_true rfl) (Nat.le_of_ble_eq_true rfl)) (fun x6 h4 => ?_)
  refine g_icmpge (pc := 10) (tgt := 34) dX8_numberOf_10 rfl ?_ ?_
  · refine g_aload_n (pc := 13) dX8_numberOf_13 0 rfl ?_
    refine g_iload_n (pc := 14) dX8_numberOf_14 1 rfl ?_
    refine g_iload (pc := 15) dX8_numberOf_15 3 rfl ?_
    refine g_gS (fun hs => ?_)
    refine g_bRl (pc := 17) (c_V cl8 hs (p_X8_nameOf hl x1 x2 x5 h4) y_X8_nameOf tw781 dX8_numberOf_17 rfl (st := []) rfl (Nat.le_of_ble_eq_true rfl) (Nat.le_of_ble_eq_true rfl) (Nat.le_of_ble_eq_true rfl)) (fun x7 h5 => ?_)
    refine g_lload_n (pc := 20) dX8_numberOf_20 2 rfl ?_
    refine g_lcmp (pc := 21) dX8_numberOf_21 ?_
    refine g_ifne (pc := 22) (tgt := 28) dX8_numberOf_22 rfl ?_ ?_
    · refine g_lv [3] rfl ?_
      exact hk25 x5 h5
    · refine g_iincN (pc := 28) dX8_numberOf_28 3 rfl ci_1 (Nat.le_of_ble_eq_true rfl) (fun x8 => ?_)
      refine g_lvr (lv' := [(4, .int x8), (0, .ref (e_z E + x1)), (1, .int x2), (2, .long x3)]) rfl ?_
      refine g_goto (pc := 31) (tgt := 3) dX8_numberOf_31 rfl ?_
      refine g_lv [1, 2, 3, 0] rfl ?_
      exact hr3 x8 h5
  · refine g_lv [] rfl ?_
    exact hk34 h4
theorem p_X8_numberOf {l : Launch} {E : aE} (hl : l.stackTraces = false) (x1 : Nat) (x2 : Int32) (x3 : Int64) (h0 : aH) : MO (fun (v : Int32) => .inl (some (.int v))) l E yX8_numberOf (.code yX8_numberOf cX8_numberOf 5 (some .int)) 1 22 [.ref (e_z E + x1), .int x2, .long x3] h0 (m_X8_numberOf x1 x2 x3 h0) := g_met hl (by decide +kernel) (Nat.le_of_ble_eq_true rfl) (b_X8_numberOf hl _ _ x1 x2 x3 h0)
theorem dX8_addPerson_0 : decode cX8_addPerson 0 = .ok (.iconst 0, 1) := by decide +kernel
theorem dX8_addPerson_1 : decode cX8_addPerson 1 = .ok (.istore_n 1, 1) := by decide +kernel
theorem dX8_addPerson_2 : decode cX8_addPerson 2 = .ok (.iload_n 1, 1) := by decide +kernel
theorem dX8_addPerson_3 : decode cX8_addPerson 3 = .ok (.bipush 32, 2) := by decide +kernel
theorem dX8_addPerson_5 : decode cX8_addPerson 5 = .ok (.if_icmp .ge 41, 3) := by decide +kernel
theorem dX8_addPerson_8 : decode cX8_addPerson 8 = .ok (.iload_n 1, 1) := by decide +kernel
theorem dX8_addPerson_9 : decode cX8_addPerson 9 = .ok (.aload_n 0, 1) := by decide +kernel
theorem dX8_addPerson_10 : decode cX8_addPerson 10 = .ok (.getfield 20, 3) := by decide +kernel
theorem dX8_addPerson_13 : decode cX8_addPerson 13 = .ok (.aload_n 0, 1) := by decide +kernel
theorem dX8_addPerson_14 : decode cX8_addPerson 14 = .ok (.getfield 53, 3) := by decide +kernel
theorem dX8_addPerson_17 : decode cX8_addPerson 17 = .ok (.aaload, 1) := by decide +kernel
theorem dX8_addPerson_18 : decode cX8_addPerson 18 = .ok (.getfield 90, 3) := by decide +kernel
theorem dX8_addPerson_21 : decode cX8_addPerson 21 = .ok (.iand, 1) := by decide +kernel
theorem dX8_addPerson_22 : decode cX8_addPerson 22 = .ok (.ifCond .eq 18, 3) := by decide +kernel
theorem dX8_addPerson_25 : decode cX8_addPerson 25 = .ok (.aload_n 0, 1) := by decide +kernel
theorem dX8_addPerson_26 : decode cX8_addPerson 26 = .ok (.getfield 46, 3) := by decide +kernel
theorem dX8_addPerson_29 : decode cX8_addPerson 29 = .ok (.iload_n 1, 1) := by decide +kernel
theorem dX8_addPerson_30 : decode cX8_addPerson 30 = .ok (.dup2, 1) := by decide +kernel
theorem dX8_addPerson_31 : decode cX8_addPerson 31 = .ok (.iaload, 1) := by decide +kernel
theorem dX8_addPerson_32 : decode cX8_addPerson 32 = .ok (.iconst 1, 1) := by decide +kernel
theorem dX8_addPerson_33 : decode cX8_addPerson 33 = .ok (.aload_n 0, 1) := by decide +kernel
theorem dX8_addPerson_34 : decode cX8_addPerson 34 = .ok (.getfield 53, 3) := by decide +kernel
theorem dX8_addPerson_37 : decode cX8_addPerson 37 = .ok (.ishl, 1) := by decide +kernel
theorem dX8_addPerson_38 : decode cX8_addPerson 38 = .ok (.ior, 1) := by decide +kernel
theorem dX8_addPerson_39 : decode cX8_addPerson 39 = .ok (.iastore, 1) := by decide +kernel
theorem dX8_addPerson_40 : decode cX8_addPerson 40 = .ok (.iinc 1 1, 3) := by decide +kernel
theorem dX8_addPerson_43 : decode cX8_addPerson 43 = .ok (.goto (-41), 3) := by decide +kernel
theorem dX8_addPerson_46 : decode cX8_addPerson 46 = .ok (.aload_n 0, 1) := by decide +kernel
theorem dX8_addPerson_47 : decode cX8_addPerson 47 = .ok (.dup, 1) := by decide +kernel
theorem dX8_addPerson_48 : decode cX8_addPerson 48 = .ok (.getfield 53, 3) := by decide +kernel
theorem dX8_addPerson_51 : decode cX8_addPerson 51 = .ok (.iconst 1, 1) := by decide +kernel
theorem dX8_addPerson_52 : decode cX8_addPerson 52 = .ok (.iadd, 1) := by decide +kernel
theorem dX8_addPerson_53 : decode cX8_addPerson 53 = .ok (.putfield 53, 3) := by decide +kernel
theorem dX8_addPerson_56 : decode cX8_addPerson 56 = .ok (.return_, 1) := by decide +kernel
abbrev M_X8_addPerson : aM := (yX8_addPerson.cls, cX8_addPerson, 2, none, [], yX8_addPerson.name == "<init>")
abbrev J_X8_addPerson (l : Launch) (E : aE) (n0 m0 : Nat) := GG (fun (_ : Unit) => .inl none) l E M_X8_addPerson 0 0 n0 m0
theorem b_X8_addPerson {l : Launch} {E : aE} (hl : l.stackTraces = false) (n0 m0 : Nat) (x1 : Nat) (h0 : aH) : J_X8_addPerson l E n0 m0 0 [(0, .ref (e_z E + x1))] [] h0 (m_X8_addPerson x1 h0) := by
  unfold m_X8_addPerson
  refine g_iconst (pc := 0) dX8_addPerson_0 ci_0 ?_
  refine g_istore_n (pc := 1) (lv' := [(1, .int (0 : Int32)), (0, .ref (e_z E + x1))]) dX8_addPerson_1 (Nat.le_of_ble_eq_true rfl) rfl ?_
  refine g_join (fun k => ∀ (h1 : aH), J_X8_addPerson l E n0 m0 46 [(0, .ref (e_z E + x1))] [] h1 (k h1)) (fun h1 => ?_) (fun k46 hk46 => ?_)
  · refine g_aload_n (pc := 46) dX8_addPerson_46 0 rfl ?_
    refine g_dup (pc := 47) rfl dX8_addPerson_47 ?_
    refine g_geti (pc := 48) cl8 (Nat.le_of_ble_eq_true rfl) fk238 (fun _ _ _ => rfl) dX8_addPerson_48 (fun x2 => ?_)
    refine g_iconst (pc := 51) dX8_addPerson_51 ci_1 ?_
    refine g_iadd (pc := 52) dX8_addPerson_52 ?_
    refine g_puti (pc := 53) cl8 (Nat.le_of_ble_eq_true rfl) (Or.inl ⟨rfl, fk238⟩) (fun _ _ _ => rfl) (fun _ => ⟨rfl, rfl⟩) dX8_addPerson_53 (fun h2 => ?_)
    exact g_ret (pc := 56) rfl isRet_v dX8_addPerson_56 rfl
  refine g_lv [1, 0] rfl ?_
  refine g_loop1 (F := (m_X8_addPerson_L2 x1 k46)) (fun x3 => [(0, .ref (e_z E + x1)), (1, .int x3)]) (fun r2 hr2 x3 h3 => ?_) _ _ _
  unfold m_X8_addPerson_L2
  refine g_iload_n (pc := 2) dX8_addPerson_2 1 rfl ?_
  refine g_bipush (pc := 3) dX8_addPerson_3 cb_32 ?_
  refine g_icmpge (pc := 5) (tgt := 46) dX8_addPerson_5 rfl ?_ ?_
  · refine g_iload_n (pc := 8) dX8_addPerson_8 1 rfl ?_
    refine g_aload_n (pc := 9) dX8_addPerson_9 0 rfl ?_
    refine g_getr (pc := 10) cl8 (Nat.le_of_ble_eq_true rfl) fk243 (fun _ _ _ => rfl) dX8_addPerson_10 (fun x4 => ?_)
    refine g_aload_n (pc := 13) dX8_addPerson_13 0 rfl ?_
    refine g_geti (pc := 14) cl8 (Nat.le_of_ble_eq_true rfl) fk238 (fun _ _ _ => rfl) dX8_addPerson_14 (fun x5 => ?_)
    refine g_aald (pc := 17) (t := 5) (Nat.le_of_ble_eq_true rfl) (Nat.le_of_ble_eq_true rfl) dX8_addPerson_17 (fun x6 => ?_)
    refine g_geti (pc := 18) cl7 (Nat.le_of_ble_eq_true rfl) fk125 (fun _ _ _ => rfl) dX8_addPerson_18 (fun x7 => ?_)
    refine g_iand (pc := 21) dX8_addPerson_21 ?_
    refine g_join (fun k => ∀ (h4 : aH), J_X8_addPerson l E n0 m0 40 [(0, .ref (e_z E + x1)), (1, .int x3)] [] h4 (k h4)) (fun h4 => ?_) (fun k40 hk40 => ?_)
    · refine g_iincN (pc := 40) dX8_addPerson_40 1 rfl ci_1 (Nat.le_of_ble_eq_true rfl) (fun x8 => ?_)
      refine g_lvr (lv' := [(1, .int x8), (0, .ref (e_z E + x1))]) rfl ?_
      refine g_goto (pc := 43) (tgt := 2) dX8_addPerson_43 rfl ?_
      refine g_lv [1, 0] rfl ?_
      exact hr2 x8 h4
    refine g_ifeq (pc := 22) (tgt := 40) dX8_addPerson_22 rfl ?_ ?_
    · exact hk40 h3
    · refine g_aload_n (pc := 25) dX8_addPerson_25 0 rfl ?_
      refine g_getr (pc := 26) cl8 (Nat.le_of_ble_eq_true rfl) fk274 (fun _ _ _ => rfl) dX8_addPerson_26 (fun x9 => ?_)
      refine g_iload_n (pc := 29) dX8_addPerson_29 1 rfl ?_
      refine g_dup2 (pc := 30) rfl rfl dX8_addPerson_30 ?_
      refine g_iald (pc := 31) dX8_addPerson_31 (fun x10 => ?_)
      refine g_iconst (pc := 32) dX8_addPerson_32 ci_1 ?_
      refine g_aload_n (pc := 33) dX8_addPerson_33 0 rfl ?_
      refine g_geti (pc := 34) cl8 (Nat.le_of_ble_eq_true rfl) fk238 (fun _ _ _ => rfl) dX8_addPerson_34 (fun x11 => ?_)
      refine g_ishl (pc := 37) dX8_addPerson_37 ?_
      refine g_ior (pc := 38) dX8_addPerson_38 ?_
      refine g_iast (pc := 39) dX8_addPerson_39 (fun h5 => ?_)
      exact hk40 h5
  · refine g_lv [0] rfl ?_
    exact hk46 h3
theorem p_X8_addPerson {l : Launch} {E : aE} (hl : l.stackTraces = false) (x1 : Nat) (h0 : aH) : MO (fun (_ : Unit) => .inl none) l E yX8_addPerson (.code yX8_addPerson cX8_addPerson 2 none) 0 0 [.ref (e_z E + x1)] h0 (m_X8_addPerson x1 h0) := g_met hl (by decide +kernel) (Nat.le_of_ble_eq_true rfl) (b_X8_addPerson hl _ _ x1 h0)
theorem dX9_init_0 : decode cX9_init 0 = .ok (.aload_n 0, 1) := by decide +kernel
theorem dX9_init_1 : decode cX9_init 1 = .ok (.invokespecial 3, 3) := by decide +kernel
theorem dX9_init_4 : decode cX9_init 4 = .ok (.aload_n 0, 1) := by decide +kernel
theorem dX9_init_5 : decode cX9_init 5 = .ok (.iconst (-1), 1) := by decide +kernel
theorem dX9_init_6 : decode cX9_init 6 = .ok (.putfield 9, 3) := by decide +kernel
theorem dX9_init_9 : decode cX9_init 9 = .ok (.aload_n 0, 1) := by decide +kernel
theorem dX9_init_10 : decode cX9_init 10 = .ok (.aload_n 1, 1) := by decide +kernel
theorem dX9_init_11 : decode cX9_init 11 = .ok (.putfield 15, 3) := by decide +kernel
theorem dX9_init_14 : decode cX9_init 14 = .ok (.return_, 1) := by decide +kernel
abbrev M_X9_init : aM := (yX9_init.cls, cX9_init, 2, none, [], yX9_init.name == "<init>")
abbrev J_X9_init (l : Launch) (E : aE) (n0 m0 : Nat) := GG (fun (_ : Unit) => .inl none) l E M_X9_init 1 30 n0 m0
theorem b_X9_init {l : Launch} {E : aE} (hl : l.stackTraces = false) (n0 m0 : Nat) (x1 : Nat) (x2 : Nat) (h0 : aH) : J_X9_init l E n0 m0 0 [(0, .ref (e_z E + x1)), (1, .ref (e_z E + x2))] [] h0 (m_X9_init x1 x2 h0) := by
  unfold m_X9_init
  refine g_aload_n (pc := 0) dX9_init_0 0 rfl ?_
  refine g_objInit (pc := 1) tw42 tw35 tw36 (Nat.le_of_ble_eq_true rfl) (Nat.le_of_ble_eq_true rfl) dX9_init_1 ?_
  refine g_aload_n (pc := 4) dX9_init_4 0 rfl ?_
  refine g_iconst (pc := 5) dX9_init_5 ci_m1 ?_
  refine g_puti (pc := 6) cl9 (Nat.le_of_ble_eq_true rfl) (Or.inl ⟨rfl, fk54⟩) (fun _ _ _ => rfl) (fun _ => ⟨rfl, rfl⟩) dX9_init_6 (fun h1 => ?_)
  refine g_aload_n (pc := 9) dX9_init_9 0 rfl ?_
  refine g_aload_n (pc := 10) dX9_init_10 1 rfl ?_
  refine g_putr (pc := 11) cl9 (Nat.le_of_ble_eq_true rfl) (Or.inr ⟨rfl, rfl, by decide +kernel, tw43⟩) (fun _ _ _ => rfl) (fun _ => ⟨rfl, rfl⟩) dX9_init_11 (fun h2 => ?_)
  exact g_ret (pc := 14) rfl isRet_v dX9_init_14 rfl
theorem p_X9_init {l : Launch} {E : aE} (hl : l.stackTraces = false) (x1 : Nat) (x2 : Nat) (h0 : aH) : MO (fun (_ : Unit) => .inl none) l E yX9_init (.code yX9_init cX9_init 2 none) 1 30 [.ref (e_z E + x1), .ref (e_z E + x2)] h0 (m_X9_init x1 x2 h0) := g_met hl (by decide +kernel) (Nat.le_of_ble_eq_true rfl) (b_X9_init hl _ _ x1 x2 h0)
theorem dX9_isLetter_0 : decode cX9_isLetter 0 = .ok (.iload_n 0, 1) := by decide +kernel
theorem dX9_isLetter_1 : decode cX9_isLetter 1 = .ok (.bipush 97, 2) := by decide +kernel
theorem dX9_isLetter_3 : decode cX9_isLetter 3 = .ok (.if_icmp .lt 13, 3) := by decide +kernel
theorem dX9_isLetter_6 : decode cX9_isLetter 6 = .ok (.iload_n 0, 1) := by decide +kernel
theorem dX9_isLetter_7 : decode cX9_isLetter 7 = .ok (.bipush 122, 2) := by decide +kernel
theorem dX9_isLetter_9 : decode cX9_isLetter 9 = .ok (.if_icmp .gt 7, 3) := by decide +kernel
theorem dX9_isLetter_12 : decode cX9_isLetter 12 = .ok (.iconst 1, 1) := by decide +kernel
theorem dX9_isLetter_13 : decode cX9_isLetter 13 = .ok (.goto 4, 3) := by decide +kernel
theorem dX9_isLetter_16 : decode cX9_isLetter 16 = .ok (.iconst 0, 1) := by decide +kernel
theorem dX9_isLetter_17 : decode cX9_isLetter 17 = .ok (.ireturn, 1) := by decide +kernel
abbrev M_X9_isLetter : aM := (yX9_isLetter.cls, cX9_isLetter, 1, (some .boolean), [], yX9_isLetter.name == "<init>")
abbrev J_X9_isLetter (l : Launch) (E : aE) (n0 m0 : Nat) := GG (fun (v : Int32) => .inl (some (.int v))) l E M_X9_isLetter 0 0 n0 m0
theorem b_X9_isLetter {l : Launch} {E : aE} (hl : l.stackTraces = false) (n0 m0 : Nat) (x1 : Int32) (h0 : aH) : J_X9_isLetter l E n0 m0 0 [(0, .int x1)] [] h0 (m_X9_isLetter x1 h0) := by
  unfold m_X9_isLetter
  refine g_iload_n (pc := 0) dX9_isLetter_0 0 rfl ?_
  refine g_bipush (pc := 1) dX9_isLetter_1 cb_97 ?_
  refine g_join (fun k => ∀ (x2 : Int32) (h1 : aH), J_X9_isLetter l E n0 m0 17 [] [.int x2] h1 (k x2 h1)) (fun x2 h1 => ?_) (fun k17 hk17 => ?_)
  · refine g_zO (fun hz => ?_)
    exact g_ret (pc := 17) rfl (isRet_z hz) dX9_isLetter_17 rfl
  refine g_join (fun k => ∀ (h2 : aH), J_X9_isLetter l E n0 m0 16 [] [] h2 (k h2)) (fun h2 => ?_) (fun k16 hk16 => ?_)
  · refine g_iconst (pc := 16) dX9_isLetter_16 ci_0 ?_
    exact hk17 (0 : Int32) h2
  refine g_icmplt (pc := 3) (tgt := 16) dX9_isLetter_3 rfl ?_ ?_
  · refine g_lv [] rfl ?_
    exact hk16 h0
  · refine g_iload_n (pc := 6) dX9_isLetter_6 0 rfl ?_
    refine g_bipush (pc := 7) dX9_isLetter_7 cb_122 ?_
    refine g_icmpgt (pc := 9) (tgt := 16) dX9_isLetter_9 rfl ?_ ?_
    · refine g_iconst (pc := 12) dX9_isLetter_12 ci_1 ?_
      refine g_goto (pc := 13) (tgt := 17) dX9_isLetter_13 rfl ?_
      refine g_lv [] rfl ?_
      exact hk17 (1 : Int32) h0
    · refine g_lv [] rfl ?_
      exact hk16 h0
theorem p_X9_isLetter {l : Launch} {E : aE} (hl : l.stackTraces = false) (x1 : Int32) (h0 : aH) : MO (fun (v : Int32) => .inl (some (.int v))) l E yX9_isLetter (.code yX9_isLetter cX9_isLetter 1 (some .boolean)) 0 0 [.int x1] h0 (m_X9_isLetter x1 h0) := g_met hl (by decide +kernel) (Nat.le_of_ble_eq_true rfl) (b_X9_isLetter hl _ _ x1 h0)
theorem dX9_isDigit_0 : decode cX9_isDigit 0 = .ok (.iload_n 0, 1) := by decide +kernel
theorem dX9_isDigit_1 : decode cX9_isDigit 1 = .ok (.bipush 48, 2) := by decide +kernel
theorem dX9_isDigit_3 : decode cX9_isDigit 3 = .ok (.if_icmp .lt 13, 3) := by decide +kernel
theorem dX9_isDigit_6 : decode cX9_isDigit 6 = .ok (.iload_n 0, 1) := by decide +kernel
theorem dX9_isDigit_7 : decode cX9_isDigit 7 = .ok (.bipush 57, 2) := by decide +kernel
theorem dX9_isDigit_9 : decode cX9_isDigit 9 = .ok (.if_icmp .gt 7, 3) := by decide +kernel
theorem dX9_isDigit_12 : decode cX9_isDigit 12 = .ok (.iconst 1, 1) := by decide +kernel
theorem dX9_isDigit_13 : decode cX9_isDigit 13 = .ok (.goto 4, 3) := by decide +kernel
theorem dX9_isDigit_16 : decode cX9_isDigit 16 = .ok (.iconst 0, 1) := by decide +kernel
theorem dX9_isDigit_17 : decode cX9_isDigit 17 = .ok (.ireturn, 1) := by decide +kernel
abbrev M_X9_isDigit : aM := (yX9_isDigit.cls, cX9_isDigit, 1, (some .boolean), [], yX9_isDigit.name == "<init>")
abbrev J_X9_isDigit (l : Launch) (E : aE) (n0 m0 : Nat) := GG (fun (v : Int32) => .inl (some (.int v))) l E M_X9_isDigit 0 0 n0 m0
theorem b_X9_isDigit {l : Launch} {E : aE} (hl : l.stackTraces = false) (n0 m0 : Nat) (x1 : Int32) (h0 : aH) : J_X9_isDigit l E n0 m0 0 [(0, .int x1)] [] h0 (m_X9_isDigit x1 h0) := by
  unfold m_X9_isDigit
  refine g_iload_n (pc := 0) dX9_isDigit_0 0 rfl ?_
  refine g_bipush (pc := 1) dX9_isDigit_1 cb_48 ?_
  refine g_join (fun k => ∀ (x2 : Int32) (h1 : aH), J_X9_isDigit l E n0 m0 17 [] [.int x2] h1 (k x2 h1)) (fun x2 h1 => ?_) (fun k17 hk17 => ?_)
  · refine g_zO (fun hz => ?_)
    exact g_ret (pc := 17) rfl (isRet_z hz) dX9_isDigit_17 rfl
  refine g_join (fun k => ∀ (h2 : aH), J_X9_isDigit l E n0 m0 16 [] [] h2 (k h2)) (fun h2 => ?_) (fun k16 hk16 => ?_)
  · refine g_iconst (pc := 16) dX9_isDigit_16 ci_0 ?_
    exact hk17 (0 : Int32) h2
  refine g_icmplt (pc := 3) (tgt := 16) dX9_isDigit_3 rfl ?_ ?_
  · refine g_lv [] rfl ?_
    exact hk16 h0
  · refine g_iload_n (pc := 6) dX9_isDigit_6 0 rfl ?_
    refine g_bipush (pc := 7) dX9_isDigit_7 cb_57 ?_
    refine g_icmpgt (pc := 9) (tgt := 16) dX9_isDigit_9 rfl ?_ ?_
    · refine g_iconst (pc := 12) dX9_isDigit_12 ci_1 ?_
      refine g_goto (pc := 13) (tgt := 17) dX9_isDigit_13 rfl ?_
      refine g_lv [] rfl ?_
      exact hk17 (1 : Int32) h0
    · refine g_lv [] rfl ?_
      exact hk16 h0
theorem p_X9_isDigit {l : Launch} {E : aE} (hl : l.stackTraces = false) (x1 : Int32) (h0 : aH) : MO (fun (v : Int32) => .inl (some (.int v))) l E yX9_isDigit (.code yX9_isDigit cX9_isDigit 1 (some .boolean)) 0 0 [.int x1] h0 (m_X9_isDigit x1 h0) := g_met hl (by decide +kernel) (Nat.le_of_ble_eq_true rfl) (b_X9_isDigit hl _ _ x1 h0)
theorem dX9_take_0 : decode cX9_take 0 = .ok (.aload_n 0, 1) := by decide +kernel
theorem dX9_take_1 : decode cX9_take 1 = .ok (.aload_n 0, 1) := by decide +kernel
theorem dX9_take_2 : decode cX9_take 2 = .ok (.getfield 88, 3) := by decide +kernel
theorem dX9_take_5 : decode cX9_take 5 = .ok (.putfield 91, 3) := by decide +kernel
theorem dX9_take_8 : decode cX9_take 8 = .ok (.aload_n 0, 1) := by decide +kernel
theorem dX9_take_9 : decode cX9_take 9 = .ok (.getfield 32, 3) := by decide +kernel
theorem dX9_take_12 : decode cX9_take 12 = .ok (.aload_n 0, 1) := by decide +kernel
theorem dX9_take_13 : decode cX9_take 13 = .ok (.getfield 25, 3) := by decide +kernel
theorem dX9_take_16 : decode cX9_take 16 = .ok (.if_icmp .ge 44, 3) := by decide +kernel
theorem dX9_take_19 : decode cX9_take 19 = .ok (.aload_n 0, 1) := by decide +kernel
theorem dX9_take_20 : decode cX9_take 20 = .ok (.getfield 15, 3) := by decide +kernel
theorem dX9_take_23 : decode cX9_take 23 = .ok (.aload_n 0, 1) := by decide +kernel
theorem dX9_take_24 : decode cX9_take 24 = .ok (.getfield 32, 3) := by decide +kernel
theorem dX9_take_27 : decode cX9_take 27 = .ok (.baload, 1) := by decide +kernel
theorem dX9_take_28 : decode cX9_take 28 = .ok (.bipush 10, 2) := by decide +kernel
theorem dX9_take_30 : decode cX9_take 30 = .ok (.if_icmp .eq 17, 3) := by decide +kernel
theorem dX9_take_33 : decode cX9_take 33 = .ok (.aload_n 0, 1) := by decide +kernel
theorem dX9_take_34 : decode cX9_take 34 = .ok (.getfield 15, 3) := by decide +kernel
theorem dX9_take_37 : decode cX9_take 37 = .ok (.aload_n 0, 1) := by decide +kernel
theorem dX9_take_38 : decode cX9_take 38 = .ok (.getfield 32, 3) := by decide +kernel
theorem dX9_take_41 : decode cX9_take 41 = .ok (.baload, 1) := by decide +kernel
theorem dX9_take_42 : decode cX9_take 42 = .ok (.bipush 32, 2) := by decide +kernel
theorem dX9_take_44 : decode cX9_take 44 = .ok (.if_icmp .ne 16, 3) := by decide +kernel
theorem dX9_take_47 : decode cX9_take 47 = .ok (.aload_n 0, 1) := by decide +kernel
theorem dX9_take_48 : decode cX9_take 48 = .ok (.dup, 1) := by decide +kernel
theorem dX9_take_49 : decode cX9_take 49 = .ok (.getfield 32, 3) := by decide +kernel
theorem dX9_take_52 : decode cX9_take 52 = .ok (.iconst 1, 1) := by decide +kernel
theorem dX9_take_53 : decode cX9_take 53 = .ok (.iadd, 1) := by decide +kernel
theorem dX9_take_54 : decode cX9_take 54 = .ok (.putfield 32, 3) := by decide +kernel
theorem dX9_take_57 : decode cX9_take 57 = .ok (.goto (-49), 3) := by decide +kernel
theorem dX9_take_60 : decode cX9_take 60 = .ok (.aload_n 0, 1) := by decide +kernel
theorem dX9_take_61 : decode cX9_take 61 = .ok (.aload_n 0, 1) := by decide +kernel
theorem dX9_take_62 : decode cX9_take 62 = .ok (.getfield 32, 3) := by decide +kernel
theorem dX9_take_65 : decode cX9_take 65 = .ok (.putfield 88, 3) := by decide +kernel
theorem dX9_take_68 : decode cX9_take 68 = .ok (.aload_n 0, 1) := by decide +kernel
theorem dX9_take_69 : decode cX9_take 69 = .ok (.getfield 32, 3) := by decide +kernel
theorem dX9_take_72 : decode cX9_take 72 = .ok (.aload_n 0, 1) := by decide +kernel
theorem dX9_take_73 : decode cX9_take 73 = .ok (.getfield 25, 3) := by decide +kernel
theorem dX9_take_76 : decode cX9_take 76 = .ok (.if_icmp .lt 9, 3) := by decide +kernel
theorem dX9_take_79 : decode cX9_take 79 = .ok (.aload_n 0, 1) := by decide +kernel
theorem dX9_take_80 : decode cX9_take 80 = .ok (.iconst 5, 1) := by decide +kernel
theorem dX9_take_81 : decode cX9_take 81 = .ok (.putfield 50, 3) := by decide +kernel
theorem dX9_take_84 : decode cX9_take 84 = .ok (.return_, 1) := by decide +kernel
theorem dX9_take_85 : decode cX9_take 85 = .ok (.aload_n 0, 1) := by decide +kernel
theorem dX9_take_86 : decode cX9_take 86 = .ok (.dup, 1) := by decide +kernel
theorem dX9_take_87 : decode cX9_take 87 = .ok (.getfield 32, 3) := by decide +kernel
theorem dX9_take_90 : decode cX9_take 90 = .ok (.iconst 1, 1) := by decide +kernel
theorem dX9_take_91 : decode cX9_take 91 = .ok (.iadd, 1) := by decide +kernel
theorem dX9_take_92 : decode cX9_take 92 = .ok (.putfield 32, 3) := by decide +kernel
theorem dX9_take_95 : decode cX9_take 95 = .ok (.aload_n 0, 1) := by decide +kernel
theorem dX9_take_96 : decode cX9_take 96 = .ok (.getfield 15, 3) := by decide +kernel
theorem dX9_take_99 : decode cX9_take 99 = .ok (.aload_n 0, 1) := by decide +kernel
theorem dX9_take_100 : decode cX9_take 100 = .ok (.getfield 88, 3) := by decide +kernel
theorem dX9_take_103 : decode cX9_take 103 = .ok (.baload, 1) := by decide +kernel
theorem dX9_take_104 : decode cX9_take 104 = .ok (.invokestatic 79, 3) := by decide +kernel
theorem dX9_take_107 : decode cX9_take 107 = .ok (.ifCond .eq 47, 3) := by decide +kernel
theorem dX9_take_110 : decode cX9_take 110 = .ok (.aload_n 0, 1) := by decide +kernel
theorem dX9_take_111 : decode cX9_take 111 = .ok (.iconst 1, 1) := by decide +kernel
theorem dX9_take_112 : decode cX9_take 112 = .ok (.putfield 50, 3) := by decide +kernel
theorem dX9_take_115 : decode cX9_take 115 = .ok (.aload_n 0, 1) := by decide +kernel
theorem dX9_take_116 : decode cX9_take 116 = .ok (.getfield 32, 3) := by decide +kernel
theorem dX9_take_119 : decode cX9_take 119 = .ok (.aload_n 0, 1) := by decide +kernel
theorem dX9_take_120 : decode cX9_take 120 = .ok (.getfield 25, 3) := by decide +kernel
theorem dX9_take_123 : decode cX9_take 123 = .ok (.if_icmp .ge 151, 3) := by decide +kernel
theorem dX9_take_126 : decode cX9_take 126 = .ok (.aload_n 0, 1) := by decide +kernel
theorem dX9_take_127 : decode cX9_take 127 = .ok (.getfield 15, 3) := by decide +kernel
theorem dX9_take_130 : decode cX9_take 130 = .ok (.aload_n 0, 1) := by decide +kernel
theorem dX9_take_131 : decode cX9_take 131 = .ok (.getfield 32, 3) := by decide +kernel
theorem dX9_take_134 : decode cX9_take 134 = .ok (.baload, 1) := by decide +kernel
theorem dX9_take_135 : decode cX9_take 135 = .ok (.invokestatic 79, 3) := by decide +kernel
theorem dX9_take_138 : decode cX9_take 138 = .ok (.ifCond .eq 136, 3) := by decide +kernel
theorem dX9_take_141 : decode cX9_take 141 = .ok (.aload_n 0, 1) := by decide +kernel
theorem dX9_take_142 : decode cX9_take 142 = .ok (.dup, 1) := by decide +kernel
theorem dX9_take_143 : decode cX9_take 143 = .ok (.getfield 32, 3) := by decide +kernel
theorem dX9_take_146 : decode cX9_take 146 = .ok (.iconst 1, 1) := by decide +kernel
theorem dX9_take_147 : decode cX9_take 147 = .ok (.iadd, 1) := by decide +kernel
theorem dX9_take_148 : decode cX9_take 148 = .ok (.putfield 32, 3) := by decide +kernel
theorem dX9_take_151 : decode cX9_take 151 = .ok (.goto (-36), 3) := by decide +kernel
theorem dX9_take_154 : decode cX9_take 154 = .ok (.aload_n 0, 1) := by decide +kernel
theorem dX9_take_155 : decode cX9_take 155 = .ok (.getfield 15, 3) := by decide +kernel
theorem dX9_take_158 : decode cX9_take 158 = .ok (.aload_n 0, 1) := by decide +kernel
theorem dX9_take_159 : decode cX9_take 159 = .ok (.getfield 88, 3) := by decide +kernel
theorem dX9_take_162 : decode cX9_take 162 = .ok (.baload, 1) := by decide +kernel
theorem dX9_take_163 : decode cX9_take 163 = .ok (.invokestatic 94, 3) := by decide +kernel
theorem dX9_take_166 : decode cX9_take 166 = .ok (.ifCond .eq 67, 3) := by decide +kernel
theorem dX9_take_169 : decode cX9_take 169 = .ok (.aload_n 0, 1) := by decide +kernel
theorem dX9_take_170 : decode cX9_take 170 = .ok (.getfield 32, 3) := by decide +kernel
theorem dX9_take_173 : decode cX9_take 173 = .ok (.aload_n 0, 1) := by decide +kernel
theorem dX9_take_174 : decode cX9_take 174 = .ok (.getfield 25, 3) := by decide +kernel
theorem dX9_take_177 : decode cX9_take 177 = .ok (.if_icmp .ge 31, 3) := by decide +kernel
theorem dX9_take_180 : decode cX9_take 180 = .ok (.aload_n 0, 1) := by decide +kernel
theorem dX9_take_181 : decode cX9_take 181 = .ok (.getfield 15, 3) := by decide +kernel
theorem dX9_take_184 : decode cX9_take 184 = .ok (.aload_n 0, 1) := by decide +kernel
theorem dX9_take_185 : decode cX9_take 185 = .ok (.getfield 32, 3) := by decide +kernel
theorem dX9_take_188 : decode cX9_take 188 = .ok (.baload, 1) := by decide +kernel
theorem dX9_take_189 : decode cX9_take 189 = .ok (.invokestatic 94, 3) := by decide +kernel
theorem dX9_take_192 : decode cX9_take 192 = .ok (.ifCond .eq 16, 3) := by decide +kernel
theorem dX9_take_195 : decode cX9_take 195 = .ok (.aload_n 0, 1) := by decide +kernel
theorem dX9_take_196 : decode cX9_take 196 = .ok (.dup, 1) := by decide +kernel
theorem dX9_take_197 : decode cX9_take 197 = .ok (.getfield 32, 3) := by decide +kernel
theorem dX9_take_200 : decode cX9_take 200 = .ok (.iconst 1, 1) := by decide +kernel
theorem dX9_take_201 : decode cX9_take 201 = .ok (.iadd, 1) := by decide +kernel
theorem dX9_take_202 : decode cX9_take 202 = .ok (.putfield 32, 3) := by decide +kernel
theorem dX9_take_205 : decode cX9_take 205 = .ok (.goto (-36), 3) := by decide +kernel
theorem dX9_take_208 : decode cX9_take 208 = .ok (.aload_n 0, 1) := by decide +kernel
theorem dX9_take_209 : decode cX9_take 209 = .ok (.aload_n 0, 1) := by decide +kernel
theorem dX9_take_210 : decode cX9_take 210 = .ok (.getfield 32, 3) := by decide +kernel
theorem dX9_take_213 : decode cX9_take 213 = .ok (.aload_n 0, 1) := by decide +kernel
theorem dX9_take_214 : decode cX9_take 214 = .ok (.getfield 88, 3) := by decide +kernel
theorem dX9_take_217 : decode cX9_take 217 = .ok (.isub, 1) := by decide +kernel
theorem dX9_take_218 : decode cX9_take 218 = .ok (.iconst 5, 1) := by decide +kernel
theorem dX9_take_219 : decode cX9_take 219 = .ok (.if_icmp .le 7, 3) := by decide +kernel
theorem dX9_take_222 : decode cX9_take 222 = .ok (.iconst 0, 1) := by decide +kernel
theorem dX9_take_223 : decode cX9_take 223 = .ok (.goto 4, 3) := by decide +kernel
theorem dX9_take_226 : decode cX9_take 226 = .ok (.iconst 2, 1) := by decide +kernel
theorem dX9_take_227 : decode cX9_take 227 = .ok (.putfield 50, 3) := by decide +kernel
theorem dX9_take_230 : decode cX9_take 230 = .ok (.goto 44, 3) := by decide +kernel
theorem dX9_take_233 : decode cX9_take 233 = .ok (.aload_n 0, 1) := by decide +kernel
theorem dX9_take_234 : decode cX9_take 234 = .ok (.aload_n 0, 1) := by decide +kernel
theorem dX9_take_235 : decode cX9_take 235 = .ok (.getfield 15, 3) := by decide +kernel
theorem dX9_take_238 : decode cX9_take 238 = .ok (.aload_n 0, 1) := by decide +kernel
theorem dX9_take_239 : decode cX9_take 239 = .ok (.getfield 88, 3) := by decide +kernel
theorem dX9_take_242 : decode cX9_take 242 = .ok (.baload, 1) := by decide +kernel
theorem dX9_take_243 : decode cX9_take 243 = .ok (.bipush 59, 2) := by decide +kernel
theorem dX9_take_245 : decode cX9_take 245 = .ok (.if_icmp .ne 7, 3) := by decide +kernel
theorem dX9_take_248 : decode cX9_take 248 = .ok (.iconst 3, 1) := by decide +kernel
theorem dX9_take_249 : decode cX9_take 249 = .ok (.goto 22, 3) := by decide +kernel
theorem dX9_take_252 : decode cX9_take 252 = .ok (.aload_n 0, 1) := by decide +kernel
theorem dX9_take_253 : decode cX9_take 253 = .ok (.getfield 15, 3) := by decide +kernel
theorem dX9_take_256 : decode cX9_take 256 = .ok (.aload_n 0, 1) := by decide +kernel
theorem dX9_take_257 : decode cX9_take 257 = .ok (.getfield 88, 3) := by decide +kernel
theorem dX9_take_260 : decode cX9_take 260 = .ok (.baload, 1) := by decide +kernel
theorem dX9_take_261 : decode cX9_take 261 = .ok (.bipush 58, 2) := by decide +kernel
theorem dX9_take_263 : decode cX9_take 263 = .ok (.if_icmp .ne 7, 3) := by decide +kernel
theorem dX9_take_266 : decode cX9_take 266 = .ok (.iconst 4, 1) := by decide +kernel
theorem dX9_take_267 : decode cX9_take 267 = .ok (.goto 4, 3) := by decide +kernel
theorem dX9_take_270 : decode cX9_take 270 = .ok (.iconst 0, 1) := by decide +kernel
theorem dX9_take_271 : decode cX9_take 271 = .ok (.putfield 50, 3) := by decide +kernel
theorem dX9_take_274 : decode cX9_take 274 = .ok (.return_, 1) := by decide +kernel
abbrev M_X9_take : aM := (yX9_take.cls, cX9_take, 1, none, [], yX9_take.name == "<init>")
abbrev J_X9_take (l : Launch) (E : aE) (n0 m0 : Nat) := GG (fun (_ : Unit) => .inl none) l E M_X9_take 1 20 n0 m0
theorem b_X9_take {l : Launch} {E : aE} (hl : l.stackTraces = false) (n0 m0 : Nat) (x1 : Nat) (h0 : aH) : J_X9_take l E n0 m0 0 [(0, .ref (e_z E + x1))] [] h0 (m_X9_take x1 h0) := by
  unfold m_X9_take
  refine g_aload_n (pc := 0) dX9_take_0 0 rfl ?_
  refine g_aload_n (pc := 1) dX9_take_1 0 rfl ?_
  refine g_geti (pc := 2) cl9 (Nat.le_of_ble_eq_true rfl) fk47 (fun _ _ _ => rfl) dX9_take_2 (fun x2 => ?_)
  refine g_puti (pc := 5) cl9 (Nat.le_of_ble_eq_true rfl) (Or.inl ⟨rfl, fk49⟩) (fun _ _ _ => rfl) (fun _ => ⟨rfl, rfl⟩) dX9_take_5 (fun h1 => ?_)
  refine g_join (fun k => ∀ (h2 : aH), J_X9_take l E n0 m0 60 [(0, .ref (e_z E + x1))] [] h2 (k h2)) (fun h2 => ?_) (fun k60 hk60 => ?_)
  · refine g_aload_n (pc := 60) dX9_take_60 0 rfl ?_
    refine g_aload_n (pc := 61) dX9_take_61 0 rfl ?_
    refine g_geti (pc := 62) cl9 (Nat.le_of_ble_eq_true rfl) fk48 (fun _ _ _ => rfl) dX9_take_62 (fun x3 => ?_)
    refine g_puti (pc := 65) cl9 (Nat.le_of_ble_eq_true rfl) (Or.inl ⟨rfl, fk47⟩) (fun _ _ _ => rfl) (fun _ => ⟨rfl, rfl⟩) dX9_take_65 (fun h3 => ?_)
    refine g_aload_n (pc := 68) dX9_take_68 0 rfl ?_
    refine g_geti (pc := 69) cl9 (Nat.le_of_ble_eq_true rfl) fk48 (fun _ _ _ => rfl) dX9_take_69 (fun x4 => ?_)
    refine g_aload_n (pc := 72) dX9_take_72 0 rfl ?_
    refine g_geti (pc := 73) cl9 (Nat.le_of_ble_eq_true rfl) fk44 (fun _ _ _ => rfl) dX9_take_73 (fun x5 => ?_)
    refine g_icmplt (pc := 76) (tgt := 85) dX9_take_76 rfl ?_ ?_
    · refine g_aload_n (pc := 85) dX9_take_85 0 rfl ?_
      refine g_dup (pc := 86) rfl dX9_take_86 ?_
      refine g_geti (pc := 87) cl9 (Nat.le_of_ble_eq_true rfl) fk48 (fun _ _ _ => rfl) dX9_take_87 (fun x6 => ?_)
      refine g_iconst (pc := 90) dX9_take_90 ci_1 ?_
      refine g_iadd (pc := 91) dX9_take_91 ?_
      refine g_puti (pc := 92) cl9 (Nat.le_of_ble_eq_true rfl) (Or.inl ⟨rfl, fk48⟩) (fun _ _ _ => rfl) (fun _ => ⟨rfl, rfl⟩) dX9_take_92 (fun h4 => ?_)
      refine g_aload_n (pc := 95) dX9_take_95 0 rfl ?_
      refine g_getr (pc := 96) cl9 (Nat.le_of_ble_eq_true rfl) fk43 (fun _ _ _ => rfl) dX9_take_96 (fun x7 => ?_)
      refine g_aload_n (pc := 99) dX9_take_99 0 rfl ?_
      refine g_geti (pc := 100) cl9 (Nat.le_of_ble_eq_true rfl) fk47 (fun _ _ _ => rfl) dX9_take_100 (fun x8 => ?_)
      refine g_bald (pc := 103) dX9_take_103 (fun x9 => ?_)
      refine g_bRi (pc := 104) (c_S (p_X9_isLetter hl x9 h4) y_X9_isLetter tw664 dX9_take_104 rfl (st := []) rfl (Nat.le_of_ble_eq_true rfl) (Nat.le_of_ble_eq_true rfl) (Nat.le_of_ble_eq_true rfl)) (fun x10 h5 => ?_)
      refine g_join (fun k => ∀ (h6 : aH), J_X9_take l E n0 m0 274 [] [] h6 (k h6)) (fun h6 => ?_) (fun k274 hk274 => ?_)
      · exact g_ret (pc := 274) rfl isRet_v dX9_take_274 rfl
      refine g_ifeq (pc := 107) (tgt := 154) dX9_take_107 rfl ?_ ?_
      · refine g_aload_n (pc := 154) dX9_take_154 0 rfl ?_
        refine g_getr (pc := 155) cl9 (Nat.le_of_ble_eq_true rfl) fk43 (fun _ _ _ => rfl) dX9_take_155 (fun x11 => ?_)
        refine g_aload_n (pc := 158) dX9_take_158 0 rfl ?_
        refine g_geti (pc := 159) cl9 (Nat.le_of_ble_eq_true rfl) fk47 (fun _ _ _ => rfl) dX9_take_159 (fun x12 => ?_)
        refine g_bald (pc := 162) dX9_take_162 (fun x13 => ?_)
        refine g_bRi (pc := 163) (c_S (p_X9_isDigit hl x13 h5) y_X9_isDigit tw667 dX9_take_163 rfl (st := []) rfl (Nat.le_of_ble_eq_true rfl) (Nat.le_of_ble_eq_true rfl) (Nat.le_of_ble_eq_true rfl)) (fun x14 h7 => ?_)
        refine g_ifeq (pc := 166) (tgt := 233) dX9_take_166 rfl ?_ ?_
        · refine g_aload_n (pc := 233) dX9_take_233 0 rfl ?_
          refine g_aload_n (pc := 234) dX9_take_234 0 rfl ?_
          refine g_getr (pc := 235) cl9 (Nat.le_of_ble_eq_true rfl) fk43 (fun _ _ _ => rfl) dX9_take_235 (fun x15 => ?_)
          refine g_aload_n (pc := 238) dX9_take_238 0 rfl ?_
          refine g_geti (pc := 239) cl9 (Nat.le_of_ble_eq_true rfl) fk47 (fun _ _ _ => rfl) dX9_take_239 (fun x16 => ?_)
          refine g_bald (pc := 242) dX9_take_242 (fun x17 => ?_)
          refine g_bipush (pc := 243) dX9_take_243 cb_59 ?_
          refine g_join (fun k => ∀ (x18 : Int32) (h8 : aH), J_X9_take l E n0 m0 271 [] [.int x18, .ref (e_z E + x1)] h8 (k x18 h8)) (fun x18 h8 => ?_) (fun k271 hk271 => ?_)
          · refine g_puti (pc := 271) cl9 (Nat.le_of_ble_eq_true rfl) (Or.inl ⟨rfl, fk46⟩) (fun _ _ _ => rfl) (fun _ => ⟨rfl, rfl⟩) dX9_take_271 (fun h9 => ?_)
            exact hk274 h9
          refine g_icmpne (pc := 245) (tgt := 252) dX9_take_245 rfl ?_ ?_
          · refine g_iconst (pc := 248) dX9_take_248 ci_3 ?_
            refine g_goto (pc := 249) (tgt := 271) dX9_take_249 rfl ?_
            refine g_lv [] rfl ?_
            exact hk271 (3 : Int32) h7
          · refine g_aload_n (pc := 252) dX9_take_252 0 rfl ?_
            refine g_getr (pc := 253) cl9 (Nat.le_of_ble_eq_true rfl) fk43 (fun _ _ _ => rfl) dX9_take_253 (fun x19 => ?_)
            refine g_aload_n (pc := 256) dX9_take_256 0 rfl ?_
            refine g_geti (pc := 257) cl9 (Nat.le_of_ble_eq_true rfl) fk47 (fun _ _ _ => rfl) dX9_take_257 (fun x20 => ?_)
            refine g_bald (pc := 260) dX9_take_260 (fun x21 => ?_)
            refine g_bipush (pc := 261) dX9_take_261 cb_58 ?_
            refine g_icmpne (pc := 263) (tgt := 270) dX9_take_263 rfl ?_ ?_
            · refine g_iconst (pc := 266) dX9_take_266 ci_4 ?_
              refine g_goto (pc := 267) (tgt := 271) dX9_take_267 rfl ?_
              refine g_lv [] rfl ?_
              exact hk271 (4 : Int32) h7
            · refine g_iconst (pc := 270) dX9_take_270 ci_0 ?_
              refine g_lv [] rfl ?_
              exact hk271 (0 : Int32) h7
        · refine g_join (fun k => ∀ (h10 : aH), J_X9_take l E n0 m0 208 [(0, .ref (e_z E + x1))] [] h10 (k h10)) (fun h10 => ?_) (fun k208 hk208 => ?_)
          · refine g_aload_n (pc := 208) dX9_take_208 0 rfl ?_
            refine g_aload_n (pc := 209) dX9_take_209 0 rfl ?_
            refine g_geti (pc := 210) cl9 (Nat.le_of_ble_eq_true rfl) fk48 (fun _ _ _ => rfl) dX9_take_210 (fun x22 => ?_)
            refine g_aload_n (pc := 213) dX9_take_213 0 rfl ?_
            refine g_geti (pc := 214) cl9 (Nat.le_of_ble_eq_true rfl) fk47 (fun _ _ _ => rfl) dX9_take_214 (fun x23 => ?_)
            refine g_isub (pc := 217) dX9_take_217 ?_
            refine g_iconst (pc := 218) dX9_take_218 ci_5 ?_
            refine g_join (fun k => ∀ (x24 : Int32) (h11 : aH), J_X9_take l E n0 m0 227 [] [.int x24, .ref (e_z E + x1)] h11 (k x24 h11)) (fun x24 h11 => ?_) (fun k227 hk227 => ?_)
            · refine g_puti (pc := 227) cl9 (Nat.le_of_ble_eq_true rfl) (Or.inl ⟨rfl, fk46⟩) (fun _ _ _ => rfl) (fun _ => ⟨rfl, rfl⟩) dX9_take_227 (fun h12 => ?_)
              refine g_goto (pc := 230) (tgt := 274) dX9_take_230 rfl ?_
              exact hk274 h12
            refine g_icmple (pc := 219) (tgt := 226) dX9_take_219 rfl ?_ ?_
            · refine g_iconst (pc := 226) dX9_take_226 ci_2 ?_
              refine g_lv [] rfl ?_
              exact hk227 (2 : Int32) h10
            · refine g_iconst (pc := 222) dX9_take_222 ci_0 ?_
              refine g_goto (pc := 223) (tgt := 227) dX9_take_223 rfl ?_
              refine g_lv [] rfl ?_
              exact hk227 (0 : Int32) h10
          refine g_loop0 (F := (m_X9_take_L169 x1 k208)) ([(0, .ref (e_z E + x1))]) (fun r169 hr169 h13 => ?_) _ _
          unfold m_X9_take_L169
          refine g_aload_n (pc := 169) dX9_take_169 0 rfl ?_
          refine g_geti (pc := 170) cl9 (Nat.le_of_ble_eq_true rfl) fk48 (fun _ _ _ => rfl) dX9_take_170 (fun x25 => ?_)
          refine g_aload_n (pc := 173) dX9_take_173 0 rfl ?_
          refine g_geti (pc := 174) cl9 (Nat.le_of_ble_eq_true rfl) fk44 (fun _ _ _ => rfl) dX9_take_174 (fun x26 => ?_)
          refine g_icmpge (pc := 177) (tgt := 208) dX9_take_177 rfl ?_ ?_
          · refine g_aload_n (pc := 180) dX9_take_180 0 rfl ?_
            refine g_getr (pc := 181) cl9 (Nat.le_of_ble_eq_true rfl) fk43 (fun _ _ _ => rfl) dX9_take_181 (fun x27 => ?_)
            refine g_aload_n (pc := 184) dX9_take_184 0 rfl ?_
            refine g_geti (pc := 185) cl9 (Nat.le_of_ble_eq_true rfl) fk48 (fun _ _ _ => rfl) dX9_take_185 (fun x28 => ?_)
            refine g_bald (pc := 188) dX9_take_188 (fun x29 => ?_)
            refine g_bRi (pc := 189) (c_S (p_X9_isDigit hl x29 h13) y_X9_isDigit tw667 dX9_take_189 rfl (st := []) rfl (Nat.le_of_ble_eq_true rfl) (Nat.le_of_ble_eq_true rfl) (Nat.le_of_ble_eq_true rfl)) (fun x30 h14 => ?_)
            refine g_ifeq (pc := 192) (tgt := 208) dX9_take_192 rfl ?_ ?_
            · exact hk208 h14
            · refine g_aload_n (pc := 195) dX9_take_195 0 rfl ?_
              refine g_dup (pc := 196) rfl dX9_take_196 ?_
              refine g_geti (pc := 197) cl9 (Nat.le_of_ble_eq_true rfl) fk48 (fun _ _ _ => rfl) dX9_take_197 (fun x31 => ?_)
              refine g_iconst (pc := 200) dX9_take_200 ci_1 ?_
              refine g_iadd (pc := 201) dX9_take_201 ?_
              refine g_puti (pc := 202) cl9 (Nat.le_of_ble_eq_true rfl) (Or.inl ⟨rfl, fk48⟩) (fun _ _ _ => rfl) (fun _ => ⟨rfl, rfl⟩) dX9_take_202 (fun h15 => ?_)
              refine g_goto (pc := 205) (tgt := 169) dX9_take_205 rfl ?_
              exact hr169 h15
          · exact hk208 h13
      · refine g_aload_n (pc := 110) dX9_take_110 0 rfl ?_
        refine g_iconst (pc := 111) dX9_take_111 ci_1 ?_
        refine g_puti (pc := 112) cl9 (Nat.le_of_ble_eq_true rfl) (Or.inl ⟨rfl, fk46⟩) (fun _ _ _ => rfl) (fun _ => ⟨rfl, rfl⟩) dX9_take_112 (fun h16 => ?_)
        refine g_loop0 (F := (m_X9_take_L115 x1 k274)) ([(0, .ref (e_z E + x1))]) (fun r115 hr115 h17 => ?_) _ _
        unfold m_X9_take_L115
        refine g_aload_n (pc := 115) dX9_take_115 0 rfl ?_
        refine g_geti (pc := 116) cl9 (Nat.le_of_ble_eq_true rfl) fk48 (fun _ _ _ => rfl) dX9_take_116 (fun x32 => ?_)
        refine g_aload_n (pc := 119) dX9_take_119 0 rfl ?_
        refine g_geti (pc := 120) cl9 (Nat.le_of_ble_eq_true rfl) fk44 (fun _ _ _ => rfl) dX9_take_120 (fun x33 => ?_)
        refine g_icmpge (pc := 123) (tgt := 274) dX9_take_123 rfl ?_ ?_
        · refine g_aload_n (pc := 126) dX9_take_126 0 rfl ?_
          refine g_getr (pc := 127) cl9 (Nat.le_of_ble_eq_true rfl) fk43 (fun _ _ _ => rfl) dX9_take_127 (fun x34 => ?_)
          refine g_aload_n (pc := 130) dX9_take_130 0 rfl ?_
          refine g_geti (pc := 131) cl9 (Nat.le_of_ble_eq_true rfl) fk48 (fun _ _ _ => rfl) dX9_take_131 (fun x35 => ?_)
          refine g_bald (pc := 134) dX9_take_134 (fun x36 => ?_)
          refine g_bRi (pc := 135) (c_S (p_X9_isLetter hl x36 h17) y_X9_isLetter tw664 dX9_take_135 rfl (st := []) rfl (Nat.le_of_ble_eq_true rfl) (Nat.le_of_ble_eq_true rfl) (Nat.le_of_ble_eq_true rfl)) (fun x37 h18 => ?_)
          refine g_ifeq (pc := 138) (tgt := 274) dX9_take_138 rfl ?_ ?_
          · refine g_lv [] rfl ?_
            exact hk274 h18
          · refine g_aload_n (pc := 141) dX9_take_141 0 rfl ?_
            refine g_dup (pc := 142) rfl dX9_take_142 ?_
            refine g_geti (pc := 143) cl9 (Nat.le_of_ble_eq_true rfl) fk48 (fun _ _ _ => rfl) dX9_take_143 (fun x38 => ?_)
            refine g_iconst (pc := 146) dX9_take_146 ci_1 ?_
            refine g_iadd (pc := 147) dX9_take_147 ?_
            refine g_puti (pc := 148) cl9 (Nat.le_of_ble_eq_true rfl) (Or.inl ⟨rfl, fk48⟩) (fun _ _ _ => rfl) (fun _ => ⟨rfl, rfl⟩) dX9_take_148 (fun h19 => ?_)
            refine g_goto (pc := 151) (tgt := 115) dX9_take_151 rfl ?_
            exact hr115 h19
        · refine g_lv [] rfl ?_
          exact hk274 h17
    · refine g_aload_n (pc := 79) dX9_take_79 0 rfl ?_
      refine g_iconst (pc := 80) dX9_take_80 ci_5 ?_
      refine g_puti (pc := 81) cl9 (Nat.le_of_ble_eq_true rfl) (Or.inl ⟨rfl, fk46⟩) (fun _ _ _ => rfl) (fun _ => ⟨rfl, rfl⟩) dX9_take_81 (fun h20 => ?_)
      exact g_ret (pc := 84) rfl isRet_v dX9_take_84 rfl
  refine g_loop0 (F := (m_X9_take_L8 x1 k60)) ([(0, .ref (e_z E + x1))]) (fun r8 hr8 h21 => ?_) _ _
  unfold m_X9_take_L8
  refine g_aload_n (pc := 8) dX9_take_8 0 rfl ?_
  refine g_geti (pc := 9) cl9 (Nat.le_of_ble_eq_true rfl) fk48 (fun _ _ _ => rfl) dX9_take_9 (fun x39 => ?_)
  refine g_aload_n (pc := 12) dX9_take_12 0 rfl ?_
  refine g_geti (pc := 13) cl9 (Nat.le_of_ble_eq_true rfl) fk44 (fun _ _ _ => rfl) dX9_take_13 (fun x40 => ?_)
  refine g_icmpge (pc := 16) (tgt := 60) dX9_take_16 rfl ?_ ?_
  · refine g_aload_n (pc := 19) dX9_take_19 0 rfl ?_
    refine g_getr (pc := 20) cl9 (Nat.le_of_ble_eq_true rfl) fk43 (fun _ _ _ => rfl) dX9_take_20 (fun x41 => ?_)
    refine g_aload_n (pc := 23) dX9_take_23 0 rfl ?_
    refine g_geti (pc := 24) cl9 (Nat.le_of_ble_eq_true rfl) fk48 (fun _ _ _ => rfl) dX9_take_24 (fun x42 => ?_)
    refine g_bald (pc := 27) dX9_take_27 (fun x43 => ?_)
    refine g_bipush (pc := 28) dX9_take_28 cb_10 ?_
    refine g_join (fun k => ∀ (h22 : aH), J_X9_take l E n0 m0 47 [(0, .ref (e_z E + x1))] [] h22 (k h22)) (fun h22 => ?_) (fun k47 hk47 => ?_)
    · refine g_aload_n (pc := 47) dX9_take_47 0 rfl ?_
      refine g_dup (pc := 48) rfl dX9_take_48 ?_
      refine g_geti (pc := 49) cl9 (Nat.le_of_ble_eq_true rfl) fk48 (fun _ _ _ => rfl) dX9_take_49 (fun x44 => ?_)
      refine g_iconst (pc := 52) dX9_take_52 ci_1 ?_
      refine g_iadd (pc := 53) dX9_take_53 ?_
      refine g_puti (pc := 54) cl9 (Nat.le_of_ble_eq_true rfl) (Or.inl ⟨rfl, fk48⟩) (fun _ _ _ => rfl) (fun _ => ⟨rfl, rfl⟩) dX9_take_54 (fun h23 => ?_)
      refine g_goto (pc := 57) (tgt := 8) dX9_take_57 rfl ?_
      exact hr8 h23
    refine g_icmpeq (pc := 30) (tgt := 47) dX9_take_30 rfl ?_ ?_
    · exact hk47 h21
    · refine g_aload_n (pc := 33) dX9_take_33 0 rfl ?_
      refine g_getr (pc := 34) cl9 (Nat.le_of_ble_eq_true rfl) fk43 (fun _ _ _ => rfl) dX9_take_34 (fun x45 => ?_)
      refine g_aload_n (pc := 37) dX9_take_37 0 rfl ?_
      refine g_geti (pc := 38) cl9 (Nat.le_of_ble_eq_true rfl) fk48 (fun _ _ _ => rfl) dX9_take_38 (fun x46 => ?_)
      refine g_bald (pc := 41) dX9_take_41 (fun x47 => ?_)
      refine g_bipush (pc := 42) dX9_take_42 cb_32 ?_
      refine g_icmpne (pc := 44) (tgt := 60) dX9_take_44 rfl ?_ ?_
      · exact hk47 h21
      · exact hk60 h21
  · exact hk60 h21
theorem p_X9_take {l : Launch} {E : aE} (hl : l.stackTraces = false) (x1 : Nat) (h0 : aH) : MO (fun (_ : Unit) => .inl none) l E yX9_take (.code yX9_take cX9_take 1 none) 1 20 [.ref (e_z E + x1)] h0 (m_X9_take x1 h0) := g_met hl (by decide +kernel) (Nat.le_of_ble_eq_true rfl) (b_X9_take hl _ _ x1 h0)
theorem dX9_isWord_0 : decode cX9_isWord 0 = .ok (.aload_n 0, 1) := by decide +kernel
theorem dX9_isWord_1 : decode cX9_isWord 1 = .ok (.getfield 50, 3) := by decide +kernel
theorem dX9_isWord_4 : decode cX9_isWord 4 = .ok (.iconst 1, 1) := by decide +kernel
theorem dX9_isWord_5 : decode cX9_isWord 5 = .ok (.if_icmp .ne 19, 3) := by decide +kernel
theorem dX9_isWord_8 : decode cX9_isWord 8 = .ok (.aload_n 0, 1) := by decide +kernel
theorem dX9_isWord_9 : decode cX9_isWord 9 = .ok (.getfield 32, 3) := by decide +kernel
theorem dX9_isWord_12 : decode cX9_isWord 12 = .ok (.aload_n 0, 1) := by decide +kernel
theorem dX9_isWord_13 : decode cX9_isWord 13 = .ok (.getfield 88, 3) := by decide +kernel
theorem dX9_isWord_16 : decode cX9_isWord 16 = .ok (.isub, 1) := by decide +kernel
theorem dX9_isWord_17 : decode cX9_isWord 17 = .ok (.aload_n 1, 1) := by decide +kernel
theorem dX9_isWord_18 : decode cX9_isWord 18 = .ok (.invokevirtual 97, 3) := by decide +kernel
theorem dX9_isWord_21 : decode cX9_isWord 21 = .ok (.if_icmp .eq 5, 3) := by decide +kernel
theorem dX9_isWord_24 : decode cX9_isWord 24 = .ok (.iconst 0, 1) := by decide +kernel
theorem dX9_isWord_25 : decode cX9_isWord 25 = .ok (.ireturn, 1) := by decide +kernel
theorem dX9_isWord_26 : decode cX9_isWord 26 = .ok (.iconst 0, 1) := by decide +kernel
theorem dX9_isWord_27 : decode cX9_isWord 27 = .ok (.istore_n 2, 1) := by decide +kernel
theorem dX9_isWord_28 : decode cX9_isWord 28 = .ok (.iload_n 2, 1) := by decide +kernel
theorem dX9_isWord_29 : decode cX9_isWord 29 = .ok (.aload_n 1, 1) := by decide +kernel
theorem dX9_isWord_30 : decode cX9_isWord 30 = .ok (.invokevirtual 97, 3) := by decide +kernel
theorem dX9_isWord_33 : decode cX9_isWord 33 = .ok (.if_icmp .ge 30, 3) := by decide +kernel
theorem dX9_isWord_36 : decode cX9_isWord 36 = .ok (.aload_n 0, 1) := by decide +kernel
theorem dX9_isWord_37 : decode cX9_isWord 37 = .ok (.getfield 15, 3) := by decide +kernel
theorem dX9_isWord_40 : decode cX9_isWord 40 = .ok (.aload_n 0, 1) := by decide +kernel
theorem dX9_isWord_41 : decode cX9_isWord 41 = .ok (.getfield 88, 3) := by decide +kernel
theorem dX9_isWord_44 : decode cX9_isWord 44 = .ok (.iload_n 2, 1) := by decide +kernel
theorem dX9_isWord_45 : decode cX9_isWord 45 = .ok (.iadd, 1) := by decide +kernel
theorem dX9_isWord_46 : decode cX9_isWord 46 = .ok (.baload, 1) := by decide +kernel
theorem dX9_isWord_47 : decode cX9_isWord 47 = .ok (.aload_n 1, 1) := by decide +kernel
theorem dX9_isWord_48 : decode cX9_isWord 48 = .ok (.iload_n 2, 1) := by decide +kernel
theorem dX9_isWord_49 : decode cX9_isWord 49 = .ok (.invokevirtual 101, 3) := by decide +kernel
theorem dX9_isWord_52 : decode cX9_isWord 52 = .ok (.if_icmp .eq 5, 3) := by decide +kernel
theorem dX9_isWord_55 : decode cX9_isWord 55 = .ok (.iconst 0, 1) := by decide +kernel
theorem dX9_isWord_56 : decode cX9_isWord 56 = .ok (.ireturn, 1) := by decide +kernel
theorem dX9_isWord_57 : decode cX9_isWord 57 = .ok (.iinc 2 1, 3) := by decide +kernel
theorem dX9_isWord_60 : decode cX9_isWord 60 = .ok (.goto (-32), 3) := by decide +kernel
theorem dX9_isWord_63 : decode cX9_isWord 63 = .ok (.iconst 1, 1) := by decide +kernel
theorem dX9_isWord_64 : decode cX9_isWord 64 = .ok (.ireturn, 1) := by decide +kernel
abbrev M_X9_isWord : aM := (yX9_isWord.cls, cX9_isWord, 3, (some .boolean), [], yX9_isWord.name == "<init>")
abbrev J_X9_isWord (l : Launch) (E : aE) (n0 m0 : Nat) := GG (fun (v : Int32) => .inl (some (.int v))) l E M_X9_isWord 7 221 n0 m0
theorem b_X9_isWord {l : Launch} {E : aE} (hl : l.stackTraces = false) (n0 m0 : Nat) (x1 : Nat) (x2 : Nat) (h0 : aH) : J_X9_isWord l E n0 m0 0 [(0, .ref (e_z E + x1)), (1, .ref (e_sA E x2))] [] h0 (m_X9_isWord x1 x2 h0) := by
  unfold m_X9_isWord
  refine g_aload_n (pc := 0) dX9_isWord_0 0 rfl ?_
  refine g_geti (pc := 1) cl9 (Nat.le_of_ble_eq_true rfl) fk46 (fun _ _ _ => rfl) dX9_isWord_1 (fun x3 => ?_)
  refine g_iconst (pc := 4) dX9_isWord_4 ci_1 ?_
  refine g_join (fun k => ∀ (h1 : aH), J_X9_isWord l E n0 m0 24 [] [] h1 (k h1)) (fun h1 => ?_) (fun k24 hk24 => ?_)
  · refine g_iconst (pc := 24) dX9_isWord_24 ci_0 ?_
    exact g_ret (pc := 25) rfl (isRet_z (Or.inl rfl)) dX9_isWord_25 rfl
  refine g_icmpne (pc := 5) (tgt := 24) dX9_isWord_5 rfl ?_ ?_
  · refine g_aload_n (pc := 8) dX9_isWord_8 0 rfl ?_
    refine g_geti (pc := 9) cl9 (Nat.le_of_ble_eq_true rfl) fk48 (fun _ _ _ => rfl) dX9_isWord_9 (fun x4 => ?_)
    refine g_aload_n (pc := 12) dX9_isWord_12 0 rfl ?_
    refine g_geti (pc := 13) cl9 (Nat.le_of_ble_eq_true rfl) fk47 (fun _ _ _ => rfl) dX9_isWord_13 (fun x5 => ?_)
    refine g_isub (pc := 16) dX9_isWord_16 ?_
    refine g_aload_n (pc := 17) dX9_isWord_17 1 rfl ?_
    refine g_gT (fun hs => ?_)
    refine g_bRi (pc := 18) (c_Str hs (p_J0_length_8abf5 hl x2 h0) y_J0_length_8abf5 tw679 dX9_isWord_18 rfl (st := [.int (x4 - x5)]) rfl (Nat.le_of_ble_eq_true rfl) (Nat.le_of_ble_eq_true rfl) (Nat.le_of_ble_eq_true rfl)) (fun x6 h2 => ?_)
    refine g_icmpeq (pc := 21) (tgt := 26) dX9_isWord_21 rfl ?_ ?_
    · refine g_iconst (pc := 26) dX9_isWord_26 ci_0 ?_
      refine g_istore_n (pc := 27) (lv' := [(2, .int (0 : Int32)), (0, .ref (e_z E + x1)), (1, .ref (e_sA E x2))]) dX9_isWord_27 (Nat.le_of_ble_eq_true rfl) rfl ?_
      refine g_join (fun k => ∀ (h3 : aH), J_X9_isWord l E n0 m0 63 [] [] h3 (k h3)) (fun h3 => ?_) (fun k63 hk63 => ?_)
      · refine g_iconst (pc := 63) dX9_isWord_63 ci_1 ?_
        exact g_ret (pc := 64) rfl (isRet_z (Or.inr rfl)) dX9_isWord_64 rfl
      refine g_join (fun k => ∀ (h4 : aH), J_X9_isWord l E n0 m0 55 [] [] h4 (k h4)) (fun h4 => ?_) (fun k55 hk55 => ?_)
      · refine g_iconst (pc := 55) dX9_isWord_55 ci_0 ?_
        exact g_ret (pc := 56) rfl (isRet_z (Or.inl rfl)) dX9_isWord_56 rfl
      refine g_lv [1, 2, 0] rfl ?_
      refine g_loop1 (F := (m_X9_isWord_L28 x1 x2 k63 k55)) (fun x7 => [(0, .ref (e_z E + x1)), (1, .ref (e_sA E x2)), (2, .int x7)]) (fun r28 hr28 x7 h5 => ?_) _ _ _
      unfold m_X9_isWord_L28
      refine g_iload_n (pc := 28) dX9_isWord_28 2 rfl ?_
      refine g_aload_n (pc := 29) dX9_isWord_29 1 rfl ?_
      refine g_gT (fun hs => ?_)
      refine g_bRi (pc := 30) (c_Str hs (p_J0_length_8abf5 hl x2 h5) y_J0_length_8abf5 tw679 dX9_isWord_30 rfl (st := [.int x7]) rfl (Nat.le_of_ble_eq_true rfl) (Nat.le_of_ble_eq_true rfl) (Nat.le_of_ble_eq_true rfl)) (fun x8 h6 => ?_)
      refine g_icmpge (pc := 33) (tgt := 63) dX9_isWord_33 rfl ?_ ?_
      · refine g_aload_n (pc := 36) dX9_isWord_36 0 rfl ?_
        refine g_getr (pc := 37) cl9 (Nat.le_of_ble_eq_true rfl) fk43 (fun _ _ _ => rfl) dX9_isWord_37 (fun x9 => ?_)
        refine g_aload_n (pc := 40) dX9_isWord_40 0 rfl ?_
        refine g_geti (pc := 41) cl9 (Nat.le_of_ble_eq_true rfl) fk47 (fun _ _ _ => rfl) dX9_isWord_41 (fun x10 => ?_)
        refine g_iload_n (pc := 44) dX9_isWord_44 2 rfl ?_
        refine g_iadd (pc := 45) dX9_isWord_45 ?_
        refine g_bald (pc := 46) dX9_isWord_46 (fun x11 => ?_)
        refine g_aload_n (pc := 47) dX9_isWord_47 1 rfl ?_
        refine g_iload_n (pc := 48) dX9_isWord_48 2 rfl ?_
        refine g_gT (fun hs => ?_)
        refine g_bRi (pc := 49) (c_Str hs (p_J0_charAt_5068e hl x2 x7 h6) y_J0_charAt_5068e tw689 dX9_isWord_49 rfl (st := [.int x11]) rfl (Nat.le_of_ble_eq_true rfl) (Nat.le_of_ble_eq_true rfl) (Nat.le_of_ble_eq_true rfl)) (fun x12 h7 => ?_)
        refine g_icmpeq (pc := 52) (tgt := 57) dX9_isWord_52 rfl ?_ ?_
        · refine g_iincN (pc := 57) dX9_isWord_57 2 rfl ci_1 (Nat.le_of_ble_eq_true rfl) (fun x13 => ?_)
          refine g_lvr (lv' := [(2, .int x13), (0, .ref (e_z E + x1)), (1, .ref (e_sA E x2))]) rfl ?_
          refine g_goto (pc := 60) (tgt := 28) dX9_isWord_60 rfl ?_
          refine g_lv [1, 2, 0] rfl ?_
          exact hr28 x13 h7
        · refine g_lv [] rfl ?_
          exact hk55 h7
      · refine g_lv [] rfl ?_
        exact hk63 h6
    · refine g_lv [] rfl ?_
      exact hk24 h2
  · refine g_lv [] rfl ?_
    exact hk24 h0
theorem p_X9_isWord {l : Launch} {E : aE} (hl : l.stackTraces = false) (x1 : Nat) (x2 : Nat) (h0 : aH) : MO (fun (v : Int32) => .inl (some (.int v))) l E yX9_isWord (.code yX9_isWord cX9_isWord 3 (some .boolean)) 7 221 [.ref (e_z E + x1), .ref (e_sA E x2)] h0 (m_X9_isWord x1 x2 h0) := g_met hl (by decide +kernel) (Nat.le_of_ble_eq_true rfl) (b_X9_isWord hl _ _ x1 x2 h0)
theorem dX9_failsAt_0 : decode cX9_failsAt 0 = .ok (.aload_n 0, 1) := by decide +kernel
theorem dX9_failsAt_1 : decode cX9_failsAt 1 = .ok (.iload_n 1, 1) := by decide +kernel
theorem dX9_failsAt_2 : decode cX9_failsAt 2 = .ok (.putfield 35, 3) := by decide +kernel
theorem dX9_failsAt_5 : decode cX9_failsAt 5 = .ok (.aload_n 0, 1) := by decide +kernel
theorem dX9_failsAt_6 : decode cX9_failsAt 6 = .ok (.iload_n 2, 1) := by decide +kernel
theorem dX9_failsAt_7 : decode cX9_failsAt 7 = .ok (.putfield 9, 3) := by decide +kernel
theorem dX9_failsAt_10 : decode cX9_failsAt 10 = .ok (.iconst 0, 1) := by decide +kernel
theorem dX9_failsAt_11 : decode cX9_failsAt 11 = .ok (.ireturn, 1) := by decide +kernel
abbrev M_X9_failsAt : aM := (yX9_failsAt.cls, cX9_failsAt, 3, (some .boolean), [], yX9_failsAt.name == "<init>")
abbrev J_X9_failsAt (l : Launch) (E : aE) (n0 m0 : Nat) := GG (fun (v : Int32) => .inl (some (.int v))) l E M_X9_failsAt 0 0 n0 m0
theorem b_X9_failsAt {l : Launch} {E : aE} (hl : l.stackTraces = false) (n0 m0 : Nat) (x1 : Nat) (x2 : Int32) (x3 : Int32) (h0 : aH) : J_X9_failsAt l E n0 m0 0 [(0, .ref (e_z E + x1)), (1, .int x2), (2, .int x3)] [] h0 (m_X9_failsAt x1 x2 x3 h0) := by
  unfold m_X9_failsAt
  refine g_aload_n (pc := 0) dX9_failsAt_0 0 rfl ?_
  refine g_iload_n (pc := 1) dX9_failsAt_1 1 rfl ?_
  refine g_puti (pc := 2) cl9 (Nat.le_of_ble_eq_true rfl) (Or.inl ⟨rfl, fk52⟩) (fun _ _ _ => rfl) (fun _ => ⟨rfl, rfl⟩) dX9_failsAt_2 (fun h1 => ?_)
  refine g_aload_n (pc := 5) dX9_failsAt_5 0 rfl ?_
  refine g_iload_n (pc := 6) dX9_failsAt_6 2 rfl ?_
  refine g_puti (pc := 7) cl9 (Nat.le_of_ble_eq_true rfl) (Or.inl ⟨rfl, fk54⟩) (fun _ _ _ => rfl) (fun _ => ⟨rfl, rfl⟩) dX9_failsAt_7 (fun h2 => ?_)
  refine g_iconst (pc := 10) dX9_failsAt_10 ci_0 ?_
  exact g_ret (pc := 11) rfl (isRet_z (Or.inl rfl)) dX9_failsAt_11 rfl
theorem p_X9_failsAt {l : Launch} {E : aE} (hl : l.stackTraces = false) (x1 : Nat) (x2 : Int32) (x3 : Int32) (h0 : aH) : MO (fun (v : Int32) => .inl (some (.int v))) l E yX9_failsAt (.code yX9_failsAt cX9_failsAt 3 (some .boolean)) 0 0 [.ref (e_z E + x1), .int x2, .int x3] h0 (m_X9_failsAt x1 x2 x3 h0) := g_met hl (by decide +kernel) (Nat.le_of_ble_eq_true rfl) (b_X9_failsAt hl _ _ x1 x2 x3 h0)
theorem dX9_fails_0 : decode cX9_fails 0 = .ok (.aload_n 0, 1) := by decide +kernel
theorem dX9_fails_1 : decode cX9_fails 1 = .ok (.iload_n 1, 1) := by decide +kernel
theorem dX9_fails_2 : decode cX9_fails 2 = .ok (.aload_n 0, 1) := by decide +kernel
theorem dX9_fails_3 : decode cX9_fails 3 = .ok (.getfield 88, 3) := by decide +kernel
theorem dX9_fails_6 : decode cX9_fails 6 = .ok (.invokevirtual 105, 3) := by decide +kernel
theorem dX9_fails_9 : decode cX9_fails 9 = .ok (.ireturn, 1) := by decide +kernel
abbrev M_X9_fails : aM := (yX9_fails.cls, cX9_fails, 2, (some .boolean), [], yX9_fails.name == "<init>")
abbrev J_X9_fails (l : Launch) (E : aE) (n0 m0 : Nat) := GG (fun (v : Int32) => .inl (some (.int v))) l E M_X9_fails 1 22 n0 m0
theorem b_X9_fails {l : Launch} {E : aE} (hl : l.stackTraces = false) (n0 m0 : Nat) (x1 : Nat) (x2 : Int32) (h0 : aH) : J_X9_fails l E n0 m0 0 [(0, .ref (e_z E + x1)), (1, .int x2)] [] h0 (m_X9_fails x1 x2 h0) := by
  unfold m_X9_fails
  refine g_aload_n (pc := 0) dX9_fails_0 0 rfl ?_
  refine g_iload_n (pc := 1) dX9_fails_1 1 rfl ?_
  refine g_aload_n (pc := 2) dX9_fails_2 0 rfl ?_
  refine g_geti (pc := 3) cl9 (Nat.le_of_ble_eq_true rfl) fk47 (fun _ _ _ => rfl) dX9_fails_3 (fun x3 => ?_)
  refine g_gS (fun hs => ?_)
  refine g_bRi (pc := 6) (c_V cl9 hs (p_X9_failsAt hl x1 x2 x3 h0) y_X9_failsAt tw731 dX9_fails_6 rfl (st := []) rfl (Nat.le_of_ble_eq_true rfl) (Nat.le_of_ble_eq_true rfl) (Nat.le_of_ble_eq_true rfl)) (fun x4 h1 => ?_)
  refine g_zO (fun hz => ?_)
  exact g_ret (pc := 9) rfl (isRet_z hz) dX9_fails_9 rfl
theorem p_X9_fails {l : Launch} {E : aE} (hl : l.stackTraces = false) (x1 : Nat) (x2 : Int32) (h0 : aH) : MO (fun (v : Int32) => .inl (some (.int v))) l E yX9_fails (.code yX9_fails cX9_fails 2 (some .boolean)) 1 22 [.ref (e_z E + x1), .int x2] h0 (m_X9_fails x1 x2 h0) := g_met hl (by decide +kernel) (Nat.le_of_ble_eq_true rfl) (b_X9_fails hl _ _ x1 x2 h0)
theorem dX9_takesNumber_0 : decode cX9_takesNumber 0 = .ok (.aload_n 0, 1) := by decide +kernel
theorem dX9_takesNumber_1 : decode cX9_takesNumber 1 = .ok (.getfield 50, 3) := by decide +kernel
theorem dX9_takesNumber_4 : decode cX9_takesNumber 4 = .ok (.iconst 2, 1) := by decide +kernel
theorem dX9_takesNumber_5 : decode cX9_takesNumber 5 = .ok (.if_icmp .eq 9, 3) := by decide +kernel
theorem dX9_takesNumber_8 : decode cX9_takesNumber 8 = .ok (.aload_n 0, 1) := by decide +kernel
theorem dX9_takesNumber_9 : decode cX9_takesNumber 9 = .ok (.iconst 1, 1) := by decide +kernel
theorem dX9_takesNumber_10 : decode cX9_takesNumber 10 = .ok (.invokevirtual 57, 3) := by decide +kernel
theorem dX9_takesNumber_13 : decode cX9_takesNumber 13 = .ok (.ireturn, 1) := by decide +kernel
theorem dX9_takesNumber_14 : decode cX9_takesNumber 14 = .ok (.iconst 0, 1) := by decide +kernel
theorem dX9_takesNumber_15 : decode cX9_takesNumber 15 = .ok (.istore_n 3, 1) := by decide +kernel
theorem dX9_takesNumber_16 : decode cX9_takesNumber 16 = .ok (.aload_n 0, 1) := by decide +kernel
theorem dX9_takesNumber_17 : decode cX9_takesNumber 17 = .ok (.getfield 88, 3) := by decide +kernel
theorem dX9_takesNumber_20 : decode cX9_takesNumber 20 = .ok (.istore 4, 2) := by decide +kernel
theorem dX9_takesNumber_22 : decode cX9_takesNumber 22 = .ok (.iload 4, 2) := by decide +kernel
theorem dX9_takesNumber_24 : decode cX9_takesNumber 24 = .ok (.aload_n 0, 1) := by decide +kernel
theorem dX9_takesNumber_25 : decode cX9_takesNumber 25 = .ok (.getfield 32, 3) := by decide +kernel
theorem dX9_takesNumber_28 : decode cX9_takesNumber 28 = .ok (.if_icmp .ge 25, 3) := by decide +kernel
theorem dX9_takesNumber_31 : decode cX9_takesNumber 31 = .ok (.iload_n 3, 1) := by decide +kernel
theorem dX9_takesNumber_32 : decode cX9_takesNumber 32 = .ok (.bipush 10, 2) := by decide +kernel
theorem dX9_takesNumber_34 : decode cX9_takesNumber 34 = .ok (.imul, 1) := by decide +kernel
theorem dX9_takesNumber_35 : decode cX9_takesNumber 35 = .ok (.aload_n 0, 1) := by decide +kernel
theorem dX9_takesNumber_36 : decode cX9_takesNumber 36 = .ok (.getfield 15, 3) := by decide +kernel
theorem dX9_takesNumber_39 : decode cX9_takesNumber 39 = .ok (.iload 4, 2) := by decide +kernel
theorem dX9_takesNumber_41 : decode cX9_takesNumber 41 = .ok (.baload, 1) := by decide +kernel
theorem dX9_takesNumber_42 : decode cX9_takesNumber 42 = .ok (.iadd, 1) := by decide +kernel
theorem dX9_takesNumber_43 : decode cX9_takesNumber 43 = .ok (.bipush 48, 2) := by decide +kernel
theorem dX9_takesNumber_45 : decode cX9_takesNumber 45 = .ok (.isub, 1) := by decide +kernel
theorem dX9_takesNumber_46 : decode cX9_takesNumber 46 = .ok (.istore_n 3, 1) := by decide +kernel
theorem dX9_takesNumber_47 : decode cX9_takesNumber 47 = .ok (.iinc 4 1, 3) := by decide +kernel
theorem dX9_takesNumber_50 : decode cX9_takesNumber 50 = .ok (.goto (-28), 3) := by decide +kernel
theorem dX9_takesNumber_53 : decode cX9_takesNumber 53 = .ok (.iload_n 3, 1) := by decide +kernel
theorem dX9_takesNumber_54 : decode cX9_takesNumber 54 = .ok (.iload_n 1, 1) := by decide +kernel
theorem dX9_takesNumber_55 : decode cX9_takesNumber 55 = .ok (.if_icmp .lt 8, 3) := by decide +kernel
theorem dX9_takesNumber_58 : decode cX9_takesNumber 58 = .ok (.iload_n 3, 1) := by decide +kernel
theorem dX9_takesNumber_59 : decode cX9_takesNumber 59 = .ok (.iload_n 2, 1) := by decide +kernel
theorem dX9_takesNumber_60 : decode cX9_takesNumber 60 = .ok (.if_icmp .le 9, 3) := by decide +kernel
theorem dX9_takesNumber_63 : decode cX9_takesNumber 63 = .ok (.aload_n 0, 1) := by decide +kernel
theorem dX9_takesNumber_64 : decode cX9_takesNumber 64 = .ok (.iconst 2, 1) := by decide +kernel
theorem dX9_takesNumber_65 : decode cX9_takesNumber 65 = .ok (.invokevirtual 57, 3) := by decide +kernel
theorem dX9_takesNumber_68 : decode cX9_takesNumber 68 = .ok (.ireturn, 1) := by decide +kernel
theorem dX9_takesNumber_69 : decode cX9_takesNumber 69 = .ok (.aload_n 0, 1) := by decide +kernel
theorem dX9_takesNumber_70 : decode cX9_takesNumber 70 = .ok (.iload_n 3, 1) := by decide +kernel
theorem dX9_takesNumber_71 : decode cX9_takesNumber 71 = .ok (.putfield 109, 3) := by decide +kernel
theorem dX9_takesNumber_74 : decode cX9_takesNumber 74 = .ok (.aload_n 0, 1) := by decide +kernel
theorem dX9_takesNumber_75 : decode cX9_takesNumber 75 = .ok (.invokevirtual 43, 3) := by decide +kernel
theorem dX9_takesNumber_78 : decode cX9_takesNumber 78 = .ok (.iconst 1, 1) := by decide +kernel
theorem dX9_takesNumber_79 : decode cX9_takesNumber 79 = .ok (.ireturn, 1) := by decide +kernel
abbrev M_X9_takesNumber : aM := (yX9_takesNumber.cls, cX9_takesNumber, 5, (some .boolean), [], yX9_takesNumber.name == "<init>")
abbrev J_X9_takesNumber (l : Launch) (E : aE) (n0 m0 : Nat) := GG (fun (v : Int32) => .inl (some (.int v))) l E M_X9_takesNumber 2 43 n0 m0
theorem b_X9_takesNumber {l : Launch} {E : aE} (hl : l.stackTraces = false) (n0 m0 : Nat) (x1 : Nat) (x2 : Int32) (x3 : Int32) (h0 : aH) : J_X9_takesNumber l E n0 m0 0 [(0, .ref (e_z E + x1)), (1, .int x2), (2, .int x3)] [] h0 (m_X9_takesNumber x1 x2 x3 h0) := by
  unfold m_X9_takesNumber
  refine g_aload_n (pc := 0) dX9_takesNumber_0 0 rfl ?_
  refine g_geti (pc := 1) cl9 (Nat.le_of_ble_eq_true rfl) fk46 (fun _ _ _ => rfl) dX9_takesNumber_1 (fun x4 => ?_)
  refine g_iconst (pc := 4) dX9_takesNumber_4 ci_2 ?_
  refine g_icmpeq (pc := 5) (tgt := 14) dX9_takesNumber_5 rfl ?_ ?_
  · refine g_iconst (pc := 14) dX9_takesNumber_14 ci_0 ?_
    refine g_istore_n (pc := 15) (lv' := [(3, .int (0 : Int32)), (0, .ref (e_z E + x1)), (1, .int x2), (2, .int x3)]) dX9_takesNumber_15 (Nat.le_of_ble_eq_true rfl) rfl ?_
    refine g_aload_n (pc := 16) dX9_takesNumber_16 1 rfl ?_
    refine g_geti (pc := 17) cl9 (Nat.le_of_ble_eq_true rfl) fk47 (fun _ _ _ => rfl) dX9_takesNumber_17 (fun x5 => ?_)
    refine g_istore (pc := 20) (lv' := [(4, .int x5), (3, .int (0 : Int32)), (0, .ref (e_z E + x1)), (1, .int x2), (2, .int x3)]) dX9_takesNumber_20 (Nat.le_of_ble_eq_true rfl) rfl ?_
    refine g_join (fun k => ∀ (x6 : Int32) (h1 : aH), J_X9_takesNumber l E n0 m0 53 [(0, .ref (e_z E + x1)), (1, .int x2), (2, .int x3), (3, .int x6)] [] h1 (k x6 h1)) (fun x6 h1 => ?_) (fun k53 hk53 => ?_)
    · refine g_iload_n (pc := 53) dX9_takesNumber_53 3 rfl ?_
      refine g_iload_n (pc := 54) dX9_takesNumber_54 1 rfl ?_
      refine g_join (fun k => ∀ (h2 : aH), J_X9_takesNumber l E n0 m0 63 [(0, .ref (e_z E + x1))] [] h2 (k h2)) (fun h2 => ?_) (fun k63 hk63 => ?_)
      · refine g_aload_n (pc := 63) dX9_takesNumber_63 0 rfl ?_
        refine g_iconst (pc := 64) dX9_takesNumber_64 ci_2 ?_
        refine g_gS (fun hs => ?_)
        refine g_bRi (pc := 65) (c_V cl9 hs (p_X9_fails hl x1 (2 : Int32) h2) y_X9_fails tw727 dX9_takesNumber_65 rfl (st := []) rfl (Nat.le_of_ble_eq_true rfl) (Nat.le_of_ble_eq_true rfl) (Nat.le_of_ble_eq_true rfl)) (fun x7 h3 => ?_)
        refine g_zO (fun hz => ?_)
        exact g_ret (pc := 68) rfl (isRet_z hz) dX9_takesNumber_68 rfl
      refine g_icmplt (pc := 55) (tgt := 63) dX9_takesNumber_55 rfl ?_ ?_
      · refine g_lv [0] rfl ?_
        exact hk63 h1
      · refine g_iload_n (pc := 58) dX9_takesNumber_58 3 rfl ?_
        refine g_iload_n (pc := 59) dX9_takesNumber_59 2 rfl ?_
        refine g_icmple (pc := 60) (tgt := 69) dX9_takesNumber_60 rfl ?_ ?_
        · refine g_aload_n (pc := 69) dX9_takesNumber_69 0 rfl ?_
          refine g_iload_n (pc := 70) dX9_takesNumber_70 3 rfl ?_
          refine g_puti (pc := 71) cl9 (Nat.le_of_ble_eq_true rfl) (Or.inl ⟨rfl, fk50⟩) (fun _ _ _ => rfl) (fun _ => ⟨rfl, rfl⟩) dX9_takesNumber_71 (fun h4 => ?_)
          refine g_aload_n (pc := 74) dX9_takesNumber_74 0 rfl ?_
          refine g_gS (fun hs => ?_)
          refine g_bRv (pc := 75) (c_V cl9 hs (p_X9_take hl x1 h4) y_X9_take tw660 dX9_takesNumber_75 rfl (st := []) rfl (Nat.le_of_ble_eq_true rfl) (Nat.le_of_ble_eq_true rfl) (Nat.le_of_ble_eq_true rfl)) (fun _ h5 => ?_)
          refine g_iconst (pc := 78) dX9_takesNumber_78 ci_1 ?_
          exact g_ret (pc := 79) rfl (isRet_z (Or.inr rfl)) dX9_takesNumber_79 rfl
        · refine g_lv [0] rfl ?_
          exact hk63 h1
    refine g_lv [2, 3, 4, 1, 0] rfl ?_
    refine g_loop2 (F := (m_X9_takesNumber_L22 x1 k53)) (fun x9 x10 => [(0, .ref (e_z E + x1)), (1, .int x2), (2, .int x3), (3, .int x9), (4, .int x10)]) (fun r22 hr22 x9 x10 h6 => ?_) _ _ _ _
    unfold m_X9_takesNumber_L22
    refine g_iload (pc := 22) dX9_takesNumber_22 4 rfl ?_
    refine g_aload_n (pc := 24) dX9_takesNumber_24 0 rfl ?_
    refine g_geti (pc := 25) cl9 (Nat.le_of_ble_eq_true rfl) fk48 (fun _ _ _ => rfl) dX9_takesNumber_25 (fun x11 => ?_)
    refine g_icmpge (pc := 28) (tgt := 53) dX9_takesNumber_28 rfl ?_ ?_
    · refine g_iload_n (pc := 31) dX9_takesNumber_31 3 rfl ?_
      refine g_bipush (pc := 32) dX9_takesNumber_32 cb_10 ?_
      refine g_imul (pc := 34) dX9_takesNumber_34 ?_
      refine g_aload_n (pc := 35) dX9_takesNumber_35 0 rfl ?_
      refine g_getr (pc := 36) cl9 (Nat.le_of_ble_eq_true rfl) fk43 (fun _ _ _ => rfl) dX9_takesNumber_36 (fun x12 => ?_)
      refine g_iload (pc := 39) dX9_takesNumber_39 4 rfl ?_
      refine g_bald (pc := 41) dX9_takesNumber_41 (fun x13 => ?_)
      refine g_iadd (pc := 42) dX9_takesNumber_42 ?_
      refine g_bipush (pc := 43) dX9_takesNumber_43 cb_48 ?_
      refine g_isub (pc := 45) dX9_takesNumber_45 ?_
      refine g_topi (fun x14 => ?_)
      refine g_istore_n (pc := 46) (lv' := [(3, .int x14), (0, .ref (e_z E + x1)), (1, .int x2), (2, .int x3), (4, .int x10)]) dX9_takesNumber_46 (Nat.le_of_ble_eq_true rfl) rfl ?_
      refine g_iincN (pc := 47) dX9_takesNumber_47 4 rfl ci_1 (Nat.le_of_ble_eq_true rfl) (fun x15 => ?_)
      refine g_lvr (lv' := [(4, .int x15), (3, .int x14), (0, .ref (e_z E + x1)), (1, .int x2), (2, .int x3)]) rfl ?_
      refine g_goto (pc := 50) (tgt := 22) dX9_takesNumber_50 rfl ?_
      refine g_lv [2, 3, 4, 1, 0] rfl ?_
      exact hr22 x14 x15 h6
    · refine g_lv [0, 1, 2, 3] rfl ?_
      exact hk53 x9 h6
  · refine g_aload_n (pc := 8) dX9_takesNumber_8 0 rfl ?_
    refine g_iconst (pc := 9) dX9_takesNumber_9 ci_1 ?_
    refine g_gS (fun hs => ?_)
    refine g_bRi (pc := 10) (c_V cl9 hs (p_X9_fails hl x1 (1 : Int32) h0) y_X9_fails tw727 dX9_takesNumber_10 rfl (st := []) rfl (Nat.le_of_ble_eq_true rfl) (Nat.le_of_ble_eq_true rfl) (Nat.le_of_ble_eq_true rfl)) (fun x16 h7 => ?_)
    refine g_zO (fun hz => ?_)
    exact g_ret (pc := 13) rfl (isRet_z hz) dX9_takesNumber_13 rfl
theorem p_X9_takesNumber {l : Launch} {E : aE} (hl : l.stackTraces = false) (x1 : Nat) (x2 : Int32) (x3 : Int32) (h0 : aH) : MO (fun (v : Int32) => .inl (some (.int v))) l E yX9_takesNumber (.code yX9_takesNumber cX9_takesNumber 5 (some .boolean)) 2 43 [.ref (e_z E + x1), .int x2, .int x3] h0 (m_X9_takesNumber x1 x2 x3 h0) := g_met hl (by decide +kernel) (Nat.le_of_ble_eq_true rfl) (b_X9_takesNumber hl _ _ x1 x2 x3 h0)
theorem dX9_takesSymbol_0 : decode cX9_takesSymbol 0 = .ok (.aload_n 0, 1) := by decide +kernel
theorem dX9_takesSymbol_1 : decode cX9_takesSymbol 1 = .ok (.getfield 50, 3) := by decide +kernel
theorem dX9_takesSymbol_4 : decode cX9_takesSymbol 4 = .ok (.iload_n 1, 1) := by decide +kernel
theorem dX9_takesSymbol_5 : decode cX9_takesSymbol 5 = .ok (.if_icmp .eq 9, 3) := by decide +kernel
theorem dX9_takesSymbol_8 : decode cX9_takesSymbol 8 = .ok (.aload_n 0, 1) := by decide +kernel
theorem dX9_takesSymbol_9 : decode cX9_takesSymbol 9 = .ok (.iconst 1, 1) := by decide +kernel
theorem dX9_takesSymbol_10 : decode cX9_takesSymbol 10 = .ok (.invokevirtual 57, 3) := by decide +kernel
theorem dX9_takesSymbol_13 : decode cX9_takesSymbol 13 = .ok (.ireturn, 1) := by decide +kernel
theorem dX9_takesSymbol_14 : decode cX9_takesSymbol 14 = .ok (.aload_n 0, 1) := by decide +kernel
theorem dX9_takesSymbol_15 : decode cX9_takesSymbol 15 = .ok (.invokevirtual 43, 3) := by decide +kernel
theorem dX9_takesSymbol_18 : decode cX9_takesSymbol 18 = .ok (.iconst 1, 1) := by decide +kernel
theorem dX9_takesSymbol_19 : decode cX9_takesSymbol 19 = .ok (.ireturn, 1) := by decide +kernel
abbrev M_X9_takesSymbol : aM := (yX9_takesSymbol.cls, cX9_takesSymbol, 2, (some .boolean), [], yX9_takesSymbol.name == "<init>")
abbrev J_X9_takesSymbol (l : Launch) (E : aE) (n0 m0 : Nat) := GG (fun (v : Int32) => .inl (some (.int v))) l E M_X9_takesSymbol 2 43 n0 m0
theorem b_X9_takesSymbol {l : Launch} {E : aE} (hl : l.stackTraces = false) (n0 m0 : Nat) (x1 : Nat) (x2 : Int32) (h0 : aH) : J_X9_takesSymbol l E n0 m0 0 [(0, .ref (e_z E + x1)), (1, .int x2)] [] h0 (m_X9_takesSymbol x1 x2 h0) := by
  unfold m_X9_takesSymbol
  refine g_aload_n (pc := 0) dX9_takesSymbol_0 0 rfl ?_
  refine g_geti (pc := 1) cl9 (Nat.le_of_ble_eq_true rfl) fk46 (fun _ _ _ => rfl) dX9_takesSymbol_1 (fun x3 => ?_)
  refine g_iload_n (pc := 4) dX9_takesSymbol_4 1 rfl ?_
  refine g_icmpeq (pc := 5) (tgt := 14) dX9_takesSymbol_5 rfl ?_ ?_
  · refine g_aload_n (pc := 14) dX9_takesSymbol_14 0 rfl ?_
    refine g_gS (fun hs => ?_)
    refine g_bRv (pc := 15) (c_V cl9 hs (p_X9_take hl x1 h0) y_X9_take tw660 dX9_takesSymbol_15 rfl (st := []) rfl (Nat.le_of_ble_eq_true rfl) (Nat.le_of_ble_eq_true rfl) (Nat.le_of_ble_eq_true rfl)) (fun _ h1 => ?_)
    refine g_iconst (pc := 18) dX9_takesSymbol_18 ci_1 ?_
    exact g_ret (pc := 19) rfl (isRet_z (Or.inr rfl)) dX9_takesSymbol_19 rfl
  · refine g_aload_n (pc := 8) dX9_takesSymbol_8 0 rfl ?_
    refine g_iconst (pc := 9) dX9_takesSymbol_9 ci_1 ?_
    refine g_gS (fun hs => ?_)
    refine g_bRi (pc := 10) (c_V cl9 hs (p_X9_fails hl x1 (1 : Int32) h0) y_X9_fails tw727 dX9_takesSymbol_10 rfl (st := []) rfl (Nat.le_of_ble_eq_true rfl) (Nat.le_of_ble_eq_true rfl) (Nat.le_of_ble_eq_true rfl)) (fun x4 h2 => ?_)
    refine g_zO (fun hz => ?_)
    exact g_ret (pc := 13) rfl (isRet_z hz) dX9_takesSymbol_13 rfl
theorem p_X9_takesSymbol {l : Launch} {E : aE} (hl : l.stackTraces = false) (x1 : Nat) (x2 : Int32) (h0 : aH) : MO (fun (v : Int32) => .inl (some (.int v))) l E yX9_takesSymbol (.code yX9_takesSymbol cX9_takesSymbol 2 (some .boolean)) 2 43 [.ref (e_z E + x1), .int x2] h0 (m_X9_takesSymbol x1 x2 h0) := g_met hl (by decide +kernel) (Nat.le_of_ble_eq_true rfl) (b_X9_takesSymbol hl _ _ x1 x2 h0)
theorem dX9_readsNight_0 : decode cX9_readsNight 0 = .ok (.aload_n 0, 1) := by decide +kernel
theorem dX9_readsNight_1 : decode cX9_readsNight 1 = .ok (.ldc 123, 2) := by decide +kernel
theorem dX9_readsNight_3 : decode cX9_readsNight 3 = .ok (.invokevirtual 125, 3) := by decide +kernel
theorem dX9_readsNight_6 : decode cX9_readsNight 6 = .ok (.ifCond .ne 9, 3) := by decide +kernel
theorem dX9_readsNight_9 : decode cX9_readsNight 9 = .ok (.aload_n 0, 1) := by decide +kernel
theorem dX9_readsNight_10 : decode cX9_readsNight 10 = .ok (.iconst 1, 1) := by decide +kernel
theorem dX9_readsNight_11 : decode cX9_readsNight 11 = .ok (.invokevirtual 57, 3) := by decide +kernel
theorem dX9_readsNight_14 : decode cX9_readsNight 14 = .ok (.ireturn, 1) := by decide +kernel
theorem dX9_readsNight_15 : decode cX9_readsNight 15 = .ok (.aload_n 0, 1) := by decide +kernel
theorem dX9_readsNight_16 : decode cX9_readsNight 16 = .ok (.invokevirtual 43, 3) := by decide +kernel
theorem dX9_readsNight_19 : decode cX9_readsNight 19 = .ok (.aload_n 0, 1) := by decide +kernel
theorem dX9_readsNight_20 : decode cX9_readsNight 20 = .ok (.iconst 0, 1) := by decide +kernel
theorem dX9_readsNight_21 : decode cX9_readsNight 21 = .ok (.bipush 23, 2) := by decide +kernel
theorem dX9_readsNight_23 : decode cX9_readsNight 23 = .ok (.invokevirtual 129, 3) := by decide +kernel
theorem dX9_readsNight_26 : decode cX9_readsNight 26 = .ok (.ifCond .ne 5, 3) := by decide +kernel
theorem dX9_readsNight_29 : decode cX9_readsNight 29 = .ok (.iconst 0, 1) := by decide +kernel
theorem dX9_readsNight_30 : decode cX9_readsNight 30 = .ok (.ireturn, 1) := by decide +kernel
theorem dX9_readsNight_31 : decode cX9_readsNight 31 = .ok (.aload_n 0, 1) := by decide +kernel
theorem dX9_readsNight_32 : decode cX9_readsNight 32 = .ok (.getfield 109, 3) := by decide +kernel
theorem dX9_readsNight_35 : decode cX9_readsNight 35 = .ok (.istore_n 1, 1) := by decide +kernel
theorem dX9_readsNight_36 : decode cX9_readsNight 36 = .ok (.aload_n 0, 1) := by decide +kernel
theorem dX9_readsNight_37 : decode cX9_readsNight 37 = .ok (.iconst 0, 1) := by decide +kernel
theorem dX9_readsNight_38 : decode cX9_readsNight 38 = .ok (.bipush 23, 2) := by decide +kernel
theorem dX9_readsNight_40 : decode cX9_readsNight 40 = .ok (.invokevirtual 129, 3) := by decide +kernel
theorem dX9_readsNight_43 : decode cX9_readsNight 43 = .ok (.ifCond .ne 5, 3) := by decide +kernel
theorem dX9_readsNight_46 : decode cX9_readsNight 46 = .ok (.iconst 0, 1) := by decide +kernel
theorem dX9_readsNight_47 : decode cX9_readsNight 47 = .ok (.ireturn, 1) := by decide +kernel
theorem dX9_readsNight_48 : decode cX9_readsNight 48 = .ok (.aload_n 0, 1) := by decide +kernel
theorem dX9_readsNight_49 : decode cX9_readsNight 49 = .ok (.getfield 109, 3) := by decide +kernel
theorem dX9_readsNight_52 : decode cX9_readsNight 52 = .ok (.istore_n 2, 1) := by decide +kernel
theorem dX9_readsNight_53 : decode cX9_readsNight 53 = .ok (.iload_n 1, 1) := by decide +kernel
theorem dX9_readsNight_54 : decode cX9_readsNight 54 = .ok (.iload_n 2, 1) := by decide +kernel
theorem dX9_readsNight_55 : decode cX9_readsNight 55 = .ok (.if_icmp .ne 13, 3) := by decide +kernel
theorem dX9_readsNight_58 : decode cX9_readsNight 58 = .ok (.aload_n 0, 1) := by decide +kernel
theorem dX9_readsNight_59 : decode cX9_readsNight 59 = .ok (.iconst 2, 1) := by decide +kernel
theorem dX9_readsNight_60 : decode cX9_readsNight 60 = .ok (.aload_n 0, 1) := by decide +kernel
theorem dX9_readsNight_61 : decode cX9_readsNight 61 = .ok (.getfield 91, 3) := by decide +kernel
theorem dX9_readsNight_64 : decode cX9_readsNight 64 = .ok (.invokevirtual 105, 3) := by decide +kernel
theorem dX9_readsNight_67 : decode cX9_readsNight 67 = .ok (.ireturn, 1) := by decide +kernel
theorem dX9_readsNight_68 : decode cX9_readsNight 68 = .ok (.aload_n 0, 1) := by decide +kernel
theorem dX9_readsNight_69 : decode cX9_readsNight 69 = .ok (.iconst 0, 1) := by decide +kernel
theorem dX9_readsNight_70 : decode cX9_readsNight 70 = .ok (.bipush 30, 2) := by decide +kernel
theorem dX9_readsNight_72 : decode cX9_readsNight 72 = .ok (.invokevirtual 129, 3) := by decide +kernel
theorem dX9_readsNight_75 : decode cX9_readsNight 75 = .ok (.ifCond .ne 5, 3) := by decide +kernel
theorem dX9_readsNight_78 : decode cX9_readsNight 78 = .ok (.iconst 0, 1) := by decide +kernel
theorem dX9_readsNight_79 : decode cX9_readsNight 79 = .ok (.ireturn, 1) := by decide +kernel
theorem dX9_readsNight_80 : decode cX9_readsNight 80 = .ok (.aload_n 0, 1) := by decide +kernel
theorem dX9_readsNight_81 : decode cX9_readsNight 81 = .ok (.getfield 109, 3) := by decide +kernel
theorem dX9_readsNight_84 : decode cX9_readsNight 84 = .ok (.istore_n 3, 1) := by decide +kernel
theorem dX9_readsNight_85 : decode cX9_readsNight 85 = .ok (.aload_n 0, 1) := by decide +kernel
theorem dX9_readsNight_86 : decode cX9_readsNight 86 = .ok (.iconst 1, 1) := by decide +kernel
theorem dX9_readsNight_87 : decode cX9_readsNight 87 = .ok (.sipush 999, 3) := by decide +kernel
theorem dX9_readsNight_90 : decode cX9_readsNight 90 = .ok (.invokevirtual 129, 3) := by decide +kernel
theorem dX9_readsNight_93 : decode cX9_readsNight 93 = .ok (.ifCond .ne 5, 3) := by decide +kernel
theorem dX9_readsNight_96 : decode cX9_readsNight 96 = .ok (.iconst 0, 1) := by decide +kernel
theorem dX9_readsNight_97 : decode cX9_readsNight 97 = .ok (.ireturn, 1) := by decide +kernel
theorem dX9_readsNight_98 : decode cX9_readsNight 98 = .ok (.aload_n 0, 1) := by decide +kernel
theorem dX9_readsNight_99 : decode cX9_readsNight 99 = .ok (.getfield 28, 3) := by decide +kernel
theorem dX9_readsNight_102 : decode cX9_readsNight 102 = .ok (.getfield 132, 3) := by decide +kernel
theorem dX9_readsNight_105 : decode cX9_readsNight 105 = .ok (.iload_n 1, 1) := by decide +kernel
theorem dX9_readsNight_106 : decode cX9_readsNight 106 = .ok (.iload_n 2, 1) := by decide +kernel
theorem dX9_readsNight_107 : decode cX9_readsNight 107 = .ok (.iload_n 3, 1) := by decide +kernel
theorem dX9_readsNight_108 : decode cX9_readsNight 108 = .ok (.aload_n 0, 1) := by decide +kernel
theorem dX9_readsNight_109 : decode cX9_readsNight 109 = .ok (.getfield 109, 3) := by decide +kernel
theorem dX9_readsNight_112 : decode cX9_readsNight 112 = .ok (.invokevirtual 135, 3) := by decide +kernel
theorem dX9_readsNight_115 : decode cX9_readsNight 115 = .ok (.aload_n 0, 1) := by decide +kernel
theorem dX9_readsNight_116 : decode cX9_readsNight 116 = .ok (.iconst 3, 1) := by decide +kernel
theorem dX9_readsNight_117 : decode cX9_readsNight 117 = .ok (.invokevirtual 76, 3) := by decide +kernel
theorem dX9_readsNight_120 : decode cX9_readsNight 120 = .ok (.ireturn, 1) := by decide +kernel
abbrev M_X9_readsNight : aM := (yX9_readsNight.cls, cX9_readsNight, 4, (some .boolean), [], yX9_readsNight.name == "<init>")
abbrev J_X9_readsNight (l : Launch) (E : aE) (n0 m0 : Nat) := GG (fun (v : Int32) => .inl (some (.int v))) l E M_X9_readsNight 8 243 n0 m0
theorem b_X9_readsNight {l : Launch} {E : aE} (hl : l.stackTraces = false) (n0 m0 : Nat) (x1 : Nat) (h0 : aH) : J_X9_readsNight l E n0 m0 0 [(0, .ref (e_z E + x1))] [] h0 (m_X9_readsNight x1 h0) := by
  unfold m_X9_readsNight
  refine g_aload_n (pc := 0) dX9_readsNight_0 0 rfl ?_
  refine g_ldcS (pc := 1) (i := 0) (by decide) rfl dX9_readsNight_1 ?_
  refine g_gS (fun hs => ?_)
  refine g_bRi (pc := 3) (c_V cl9 hs (p_X9_isWord hl x1 0 h0) y_X9_isWord tw675 dX9_readsNight_3 rfl (st := []) rfl (Nat.le_of_ble_eq_true rfl) (Nat.le_of_ble_eq_true rfl) (Nat.le_of_ble_eq_true rfl)) (fun x2 h1 => ?_)
  refine g_ifne (pc := 6) (tgt := 15) dX9_readsNight_6 rfl ?_ ?_
  · refine g_aload_n (pc := 9) dX9_readsNight_9 0 rfl ?_
    refine g_iconst (pc := 10) dX9_readsNight_10 ci_1 ?_
    refine g_gS (fun hs => ?_)
    refine g_bRi (pc := 11) (c_V cl9 hs (p_X9_fails hl x1 (1 : Int32) h1) y_X9_fails tw727 dX9_readsNight_11 rfl (st := []) rfl (Nat.le_of_ble_eq_true rfl) (Nat.le_of_ble_eq_true rfl) (Nat.le_of_ble_eq_true rfl)) (fun x3 h2 => ?_)
    refine g_zO (fun hz => ?_)
    exact g_ret (pc := 14) rfl (isRet_z hz) dX9_readsNight_14 rfl
  · refine g_aload_n (pc := 15) dX9_readsNight_15 0 rfl ?_
    refine g_gS (fun hs => ?_)
    refine g_bRv (pc := 16) (c_V cl9 hs (p_X9_take hl x1 h1) y_X9_take tw660 dX9_readsNight_16 rfl (st := []) rfl (Nat.le_of_ble_eq_true rfl) (Nat.le_of_ble_eq_true rfl) (Nat.le_of_ble_eq_true rfl)) (fun _ h3 => ?_)
    refine g_aload_n (pc := 19) dX9_readsNight_19 0 rfl ?_
    refine g_iconst (pc := 20) dX9_readsNight_20 ci_0 ?_
    refine g_bipush (pc := 21) dX9_readsNight_21 cb_23 ?_
    refine g_gS (fun hs => ?_)
    refine g_bRi (pc := 23) (c_V cl9 hs (p_X9_takesNumber hl x1 (0 : Int32) (23 : Int32) h3) y_X9_takesNumber tw735 dX9_readsNight_23 rfl (st := []) rfl (Nat.le_of_ble_eq_true rfl) (Nat.le_of_ble_eq_true rfl) (Nat.le_of_ble_eq_true rfl)) (fun x5 h4 => ?_)
    refine g_ifne (pc := 26) (tgt := 31) dX9_readsNight_26 rfl ?_ ?_
    · refine g_iconst (pc := 29) dX9_readsNight_29 ci_0 ?_
      exact g_ret (pc := 30) rfl (isRet_z (Or.inl rfl)) dX9_readsNight_30 rfl
    · refine g_aload_n (pc := 31) dX9_readsNight_31 0 rfl ?_
      refine g_geti (pc := 32) cl9 (Nat.le_of_ble_eq_true rfl) fk50 (fun _ _ _ => rfl) dX9_readsNight_32 (fun x6 => ?_)
      refine g_istore_n (pc := 35) (lv' := [(1, .int x6), (0, .ref (e_z E + x1))]) dX9_readsNight_35 (Nat.le_of_ble_eq_true rfl) rfl ?_
      refine g_aload_n (pc := 36) dX9_readsNight_36 1 rfl ?_
      refine g_iconst (pc := 37) dX9_readsNight_37 ci_0 ?_
      refine g_bipush (pc := 38) dX9_readsNight_38 cb_23 ?_
      refine g_gS (fun hs => ?_)
      refine g_bRi (pc := 40) (c_V cl9 hs (p_X9_takesNumber hl x1 (0 : Int32) (23 : Int32) h4) y_X9_takesNumber tw735 dX9_readsNight_40 rfl (st := []) rfl (Nat.le_of_ble_eq_true rfl) (Nat.le_of_ble_eq_true rfl) (Nat.le_of_ble_eq_true rfl)) (fun x7 h5 => ?_)
      refine g_ifne (pc := 43) (tgt := 48) dX9_readsNight_43 rfl ?_ ?_
      · refine g_iconst (pc := 46) dX9_readsNight_46 ci_0 ?_
        exact g_ret (pc := 47) rfl (isRet_z (Or.inl rfl)) dX9_readsNight_47 rfl
      · refine g_aload_n (pc := 48) dX9_readsNight_48 1 rfl ?_
        refine g_geti (pc := 49) cl9 (Nat.le_of_ble_eq_true rfl) fk50 (fun _ _ _ => rfl) dX9_readsNight_49 (fun x8 => ?_)
        refine g_istore_n (pc := 52) (lv' := [(2, .int x8), (1, .int x6), (0, .ref (e_z E + x1))]) dX9_readsNight_52 (Nat.le_of_ble_eq_true rfl) rfl ?_
        refine g_iload_n (pc := 53) dX9_readsNight_53 1 rfl ?_
        refine g_iload_n (pc := 54) dX9_readsNight_54 0 rfl ?_
        refine g_icmpne (pc := 55) (tgt := 68) dX9_readsNight_55 rfl ?_ ?_
        · refine g_aload_n (pc := 58) dX9_readsNight_58 2 rfl ?_
          refine g_iconst (pc := 59) dX9_readsNight_59 ci_2 ?_
          refine g_aload_n (pc := 60) dX9_readsNight_60 2 rfl ?_
          refine g_geti (pc := 61) cl9 (Nat.le_of_ble_eq_true rfl) fk49 (fun _ _ _ => rfl) dX9_readsNight_61 (fun x9 => ?_)
          refine g_gS (fun hs => ?_)
          refine g_bRi (pc := 64) (c_V cl9 hs (p_X9_failsAt hl x1 (2 : Int32) x9 h5) y_X9_failsAt tw731 dX9_readsNight_64 rfl (st := []) rfl (Nat.le_of_ble_eq_true rfl) (Nat.le_of_ble_eq_true rfl) (Nat.le_of_ble_eq_true rfl)) (fun x10 h6 => ?_)
          refine g_zO (fun hz => ?_)
          exact g_ret (pc := 67) rfl (isRet_z hz) dX9_readsNight_67 rfl
        · refine g_aload_n (pc := 68) dX9_readsNight_68 2 rfl ?_
          refine g_iconst (pc := 69) dX9_readsNight_69 ci_0 ?_
          refine g_bipush (pc := 70) dX9_readsNight_70 cb_30 ?_
          refine g_gS (fun hs => ?_)
          refine g_bRi (pc := 72) (c_V cl9 hs (p_X9_takesNumber hl x1 (0 : Int32) (30 : Int32) h5) y_X9_takesNumber tw735 dX9_readsNight_72 rfl (st := []) rfl (Nat.le_of_ble_eq_true rfl) (Nat.le_of_ble_eq_true rfl) (Nat.le_of_ble_eq_true rfl)) (fun x12 h7 => ?_)
          refine g_ifne (pc := 75) (tgt := 80) dX9_readsNight_75 rfl ?_ ?_
          · refine g_iconst (pc := 78) dX9_readsNight_78 ci_0 ?_
            exact g_ret (pc := 79) rfl (isRet_z (Or.inl rfl)) dX9_readsNight_79 rfl
          · refine g_aload_n (pc := 80) dX9_readsNight_80 2 rfl ?_
            refine g_geti (pc := 81) cl9 (Nat.le_of_ble_eq_true rfl) fk50 (fun _ _ _ => rfl) dX9_readsNight_81 (fun x13 => ?_)
            refine g_istore_n (pc := 84) (lv' := [(3, .int x13), (2, .int x8), (1, .int x6), (0, .ref (e_z E + x1))]) dX9_readsNight_84 (Nat.le_of_ble_eq_true rfl) rfl ?_
            refine g_aload_n (pc := 85) dX9_readsNight_85 3 rfl ?_
            refine g_iconst (pc := 86) dX9_readsNight_86 ci_1 ?_
            refine g_sipush (pc := 87) dX9_readsNight_87 cs_999 ?_
            refine g_gS (fun hs => ?_)
            refine g_bRi (pc := 90) (c_V cl9 hs (p_X9_takesNumber hl x1 (1 : Int32) (999 : Int32) h7) y_X9_takesNumber tw735 dX9_readsNight_90 rfl (st := []) rfl (Nat.le_of_ble_eq_true rfl) (Nat.le_of_ble_eq_true rfl) (Nat.le_of_ble_eq_true rfl)) (fun x14 h8 => ?_)
            refine g_ifne (pc := 93) (tgt := 98) dX9_readsNight_93 rfl ?_ ?_
            · refine g_iconst (pc := 96) dX9_readsNight_96 ci_0 ?_
              exact g_ret (pc := 97) rfl (isRet_z (Or.inl rfl)) dX9_readsNight_97 rfl
            · refine g_aload_n (pc := 98) dX9_readsNight_98 3 rfl ?_
              refine g_getr (pc := 99) cl9 (Nat.le_of_ble_eq_true rfl) fk45 (fun _ _ _ => rfl) dX9_readsNight_99 (fun x15 => ?_)
              refine g_getr (pc := 102) cl8 (Nat.le_of_ble_eq_true rfl) fk237 (fun _ _ _ => rfl) dX9_readsNight_102 (fun x16 => ?_)
              refine g_iload_n (pc := 105) dX9_readsNight_105 2 rfl ?_
              refine g_iload_n (pc := 106) dX9_readsNight_106 1 rfl ?_
              refine g_iload_n (pc := 107) dX9_readsNight_107 0 rfl ?_
              refine g_aload_n (pc := 108) dX9_readsNight_108 3 rfl ?_
              refine g_geti (pc := 109) cl9 (Nat.le_of_ble_eq_true rfl) fk50 (fun _ _ _ => rfl) dX9_readsNight_109 (fun x17 => ?_)
              refine g_gS (fun hs => ?_)
              refine g_bRv (pc := 112) (c_VN cl5 hs (p_X5_set hl x16 x6 x8 x13 x17 h8) y_X5_set tw739 dX9_readsNight_112 rfl (st := []) rfl (Nat.le_of_ble_eq_true rfl) (Nat.le_of_ble_eq_true rfl) (Nat.le_of_ble_eq_true rfl)) (fun _ h9 => ?_)
              refine g_aload_n (pc := 115) dX9_readsNight_115 3 rfl ?_
              refine g_iconst (pc := 116) dX9_readsNight_116 ci_3 ?_
              refine g_gS (fun hs => ?_)
              refine g_bRi (pc := 117) (c_V cl9 hs (p_X9_takesSymbol hl x1 (3 : Int32) h9) y_X9_takesSymbol tw740 dX9_readsNight_117 rfl (st := []) rfl (Nat.le_of_ble_eq_true rfl) (Nat.le_of_ble_eq_true rfl) (Nat.le_of_ble_eq_true rfl)) (fun x18 h10 => ?_)
              refine g_zO (fun hz => ?_)
              exact g_ret (pc := 120) rfl (isRet_z hz) dX9_readsNight_120 rfl
theorem p_X9_readsNight {l : Launch} {E : aE} (hl : l.stackTraces = false) (x1 : Nat) (h0 : aH) : MO (fun (v : Int32) => .inl (some (.int v))) l E yX9_readsNight (.code yX9_readsNight cX9_readsNight 4 (some .boolean)) 8 243 [.ref (e_z E + x1)] h0 (m_X9_readsNight x1 h0) := g_met hl (by decide +kernel) (Nat.le_of_ble_eq_true rfl) (b_X9_readsNight hl _ _ x1 h0)
theorem dX9_sectionWord_0 : decode cX9_sectionWord 0 = .ok (.iload_n 0, 1) := by decide +kernel
theorem dX9_sectionWord_1 : decode cX9_sectionWord 1 = .ok (.tableswitch 43 0 3 #[31, 34, 37, 40], 31) := by decide +kernel
theorem dX9_sectionWord_32 : decode cX9_sectionWord 32 = .ok (.ldc 145, 2) := by decide +kernel
theorem dX9_sectionWord_34 : decode cX9_sectionWord 34 = .ok (.areturn, 1) := by decide +kernel
theorem dX9_sectionWord_35 : decode cX9_sectionWord 35 = .ok (.ldc 147, 2) := by decide +kernel
theorem dX9_sectionWord_37 : decode cX9_sectionWord 37 = .ok (.areturn, 1) := by decide +kernel
theorem dX9_sectionWord_38 : decode cX9_sectionWord 38 = .ok (.ldc 149, 2) := by decide +kernel
theorem dX9_sectionWord_40 : decode cX9_sectionWord 40 = .ok (.areturn, 1) := by decide +kernel
theorem dX9_sectionWord_41 : decode cX9_sectionWord 41 = .ok (.ldc 151, 2) := by decide +kernel
theorem dX9_sectionWord_43 : decode cX9_sectionWord 43 = .ok (.areturn, 1) := by decide +kernel
theorem dX9_sectionWord_44 : decode cX9_sectionWord 44 = .ok (.ldc 153, 2) := by decide +kernel
theorem dX9_sectionWord_46 : decode cX9_sectionWord 46 = .ok (.areturn, 1) := by decide +kernel
abbrev M_X9_sectionWord : aM := (yX9_sectionWord.cls, cX9_sectionWord, 1, (some (.object "java/lang/String")), [], yX9_sectionWord.name == "<init>")
abbrev J_X9_sectionWord (l : Launch) (E : aE) (n0 m0 : Nat) := GG (fun (v : Nat) => .inl (some (.ref (e_sA E v)))) l E M_X9_sectionWord 0 0 n0 m0
theorem b_X9_sectionWord {l : Launch} {E : aE} (hl : l.stackTraces = false) (n0 m0 : Nat) (x1 : Int32) (h0 : aH) : J_X9_sectionWord l E n0 m0 0 [(0, .int x1)] [] h0 (m_X9_sectionWord x1 h0) := by
  unfold m_X9_sectionWord
  refine g_iload_n (pc := 0) dX9_sectionWord_0 0 rfl ?_
  refine g_swI (fun e0 => ?_) (fun e0 => ?_)
  · refine g_swIn (pc := 1) (tgt := 32) (off := 31) dX9_sectionWord_1 (by omega) (by omega) (by rw [e0]; rfl) rfl ?_
    refine g_ldcS (pc := 32) (i := 1) (by decide) rfl dX9_sectionWord_32 ?_
    exact g_ret (pc := 34) rfl (isRet_a _ _) dX9_sectionWord_34 rfl
  refine g_swI (fun e1 => ?_) (fun e1 => ?_)
  · refine g_swIn (pc := 1) (tgt := 35) (off := 34) dX9_sectionWord_1 (by omega) (by omega) (by rw [e1]; rfl) rfl ?_
    refine g_ldcS (pc := 35) (i := 2) (by decide) rfl dX9_sectionWord_35 ?_
    exact g_ret (pc := 37) rfl (isRet_a _ _) dX9_sectionWord_37 rfl
  refine g_swI (fun e2 => ?_) (fun e2 => ?_)
  · refine g_swIn (pc := 1) (tgt := 38) (off := 37) dX9_sectionWord_1 (by omega) (by omega) (by rw [e2]; rfl) rfl ?_
    refine g_ldcS (pc := 38) (i := 3) (by decide) rfl dX9_sectionWord_38 ?_
    exact g_ret (pc := 40) rfl (isRet_a _ _) dX9_sectionWord_40 rfl
  refine g_swI (fun e3 => ?_) (fun e3 => ?_)
  · refine g_swIn (pc := 1) (tgt := 41) (off := 40) dX9_sectionWord_1 (by omega) (by omega) (by rw [e3]; rfl) rfl ?_
    refine g_ldcS (pc := 41) (i := 4) (by decide) rfl dX9_sectionWord_41 ?_
    exact g_ret (pc := 43) rfl (isRet_a _ _) dX9_sectionWord_43 rfl
  refine g_swOut (pc := 1) (tgt := 44) dX9_sectionWord_1 (by omega) rfl ?_
  refine g_ldcS (pc := 44) (i := 5) (by decide) rfl dX9_sectionWord_44 ?_
  exact g_ret (pc := 46) rfl (isRet_a _ _) dX9_sectionWord_46 rfl
theorem p_X9_sectionWord {l : Launch} {E : aE} (hl : l.stackTraces = false) (x1 : Int32) (h0 : aH) : MO (fun (v : Nat) => .inl (some (.ref (e_sA E v)))) l E yX9_sectionWord (.code yX9_sectionWord cX9_sectionWord 1 (some (.object "java/lang/String"))) 0 0 [.int x1] h0 (m_X9_sectionWord x1 h0) := g_met hl (by decide +kernel) (Nat.le_of_ble_eq_true rfl) (b_X9_sectionWord hl _ _ x1 h0)
theorem dX9_sectionOfWord_0 : decode cX9_sectionOfWord 0 = .ok (.iconst 0, 1) := by decide +kernel
theorem dX9_sectionOfWord_1 : decode cX9_sectionOfWord 1 = .ok (.istore_n 1, 1) := by decide +kernel
theorem dX9_sectionOfWord_2 : decode cX9_sectionOfWord 2 = .ok (.iload_n 1, 1) := by decide +kernel
theorem dX9_sectionOfWord_3 : decode cX9_sectionOfWord 3 = .ok (.iconst 5, 1) := by decide +kernel
theorem dX9_sectionOfWord_4 : decode cX9_sectionOfWord 4 = .ok (.if_icmp .ge 22, 3) := by decide +kernel
theorem dX9_sectionOfWord_7 : decode cX9_sectionOfWord 7 = .ok (.aload_n 0, 1) := by decide +kernel
theorem dX9_sectionOfWord_8 : decode cX9_sectionOfWord 8 = .ok (.iload_n 1, 1) := by decide +kernel
theorem dX9_sectionOfWord_9 : decode cX9_sectionOfWord 9 = .ok (.invokestatic 141, 3) := by decide +kernel
theorem dX9_sectionOfWord_12 : decode cX9_sectionOfWord 12 = .ok (.invokevirtual 125, 3) := by decide +kernel
theorem dX9_sectionOfWord_15 : decode cX9_sectionOfWord 15 = .ok (.ifCond .eq 5, 3) := by decide +kernel
theorem dX9_sectionOfWord_18 : decode cX9_sectionOfWord 18 = .ok (.iload_n 1, 1) := by decide +kernel
theorem dX9_sectionOfWord_19 : decode cX9_sectionOfWord 19 = .ok (.ireturn, 1) := by decide +kernel
theorem dX9_sectionOfWord_20 : decode cX9_sectionOfWord 20 = .ok (.iinc 1 1, 3) := by decide +kernel
theorem dX9_sectionOfWord_23 : decode cX9_sectionOfWord 23 = .ok (.goto (-21), 3) := by decide +kernel
theorem dX9_sectionOfWord_26 : decode cX9_sectionOfWord 26 = .ok (.iconst (-1), 1) := by decide +kernel
theorem dX9_sectionOfWord_27 : decode cX9_sectionOfWord 27 = .ok (.ireturn, 1) := by decide +kernel
abbrev M_X9_sectionOfWord : aM := (yX9_sectionOfWord.cls, cX9_sectionOfWord, 2, (some .int), [], yX9_sectionOfWord.name == "<init>")
abbrev J_X9_sectionOfWord (l : Launch) (E : aE) (n0 m0 : Nat) := GG (fun (v : Int32) => .inl (some (.int v))) l E M_X9_sectionOfWord 8 243 n0 m0
theorem b_X9_sectionOfWord {l : Launch} {E : aE} (hl : l.stackTraces = false) (n0 m0 : Nat) (x1 : Nat) (h0 : aH) : J_X9_sectionOfWord l E n0 m0 0 [(0, .ref (e_z E + x1))] [] h0 (m_X9_sectionOfWord x1 h0) := by
  unfold m_X9_sectionOfWord
  refine g_iconst (pc := 0) dX9_sectionOfWord_0 ci_0 ?_
  refine g_istore_n (pc := 1) (lv' := [(1, .int (0 : Int32)), (0, .ref (e_z E + x1))]) dX9_sectionOfWord_1 (Nat.le_of_ble_eq_true rfl) rfl ?_
  refine g_join (fun k => ∀ (h1 : aH), J_X9_sectionOfWord l E n0 m0 26 [] [] h1 (k h1)) (fun h1 => ?_) (fun k26 hk26 => ?_)
  · refine g_iconst (pc := 26) dX9_sectionOfWord_26 ci_m1 ?_
    exact g_ret (pc := 27) rfl (isRet_i _) dX9_sectionOfWord_27 rfl
  refine g_join (fun k => ∀ (x2 : Int32) (h2 : aH), J_X9_sectionOfWord l E n0 m0 18 [(1, .int x2)] [] h2 (k x2 h2)) (fun x2 h2 => ?_) (fun k18 hk18 => ?_)
  · refine g_iload_n (pc := 18) dX9_sectionOfWord_18 0 rfl ?_
    exact g_ret (pc := 19) rfl (isRet_i _) dX9_sectionOfWord_19 rfl
  refine g_lv [1, 0] rfl ?_
  refine g_loop1 (F := (m_X9_sectionOfWord_L2 x1 k26 k18)) (fun x3 => [(0, .ref (e_z E + x1)), (1, .int x3)]) (fun r2 hr2 x3 h3 => ?_) _ _ _
  unfold m_X9_sectionOfWord_L2
  refine g_iload_n (pc := 2) dX9_sectionOfWord_2 1 rfl ?_
  refine g_iconst (pc := 3) dX9_sectionOfWord_3 ci_5 ?_
  refine g_icmpge (pc := 4) (tgt := 26) dX9_sectionOfWord_4 rfl ?_ ?_
  · refine g_aload_n (pc := 7) dX9_sectionOfWord_7 0 rfl ?_
    refine g_iload_n (pc := 8) dX9_sectionOfWord_8 1 rfl ?_
    refine g_bRs (pc := 9) (c_S (p_X9_sectionWord hl x3 h3) y_X9_sectionWord tw748 dX9_sectionOfWord_9 rfl (st := [.ref (e_z E + x1)]) rfl (Nat.le_of_ble_eq_true rfl) (Nat.le_of_ble_eq_true rfl) (Nat.le_of_ble_eq_true rfl)) (fun x4 h4 => ?_)
    refine g_gS (fun hs => ?_)
    refine g_bRi (pc := 12) (c_V cl9 hs (p_X9_isWord hl x1 x4 h4) y_X9_isWord tw675 dX9_sectionOfWord_12 rfl (st := []) rfl (Nat.le_of_ble_eq_true rfl) (Nat.le_of_ble_eq_true rfl) (Nat.le_of_ble_eq_true rfl)) (fun x5 h5 => ?_)
    refine g_ifeq (pc := 15) (tgt := 20) dX9_sectionOfWord_15 rfl ?_ ?_
    · refine g_iincN (pc := 20) dX9_sectionOfWord_20 1 rfl ci_1 (Nat.le_of_ble_eq_true rfl) (fun x6 => ?_)
      refine g_lvr (lv' := [(1, .int x6), (0, .ref (e_z E + x1))]) rfl ?_
      refine g_goto (pc := 23) (tgt := 2) dX9_sectionOfWord_23 rfl ?_
      refine g_lv [1, 0] rfl ?_
      exact hr2 x6 h5
    · refine g_lv [1] rfl ?_
      exact hk18 x3 h5
  · refine g_lv [] rfl ?_
    exact hk26 h3
theorem p_X9_sectionOfWord {l : Launch} {E : aE} (hl : l.stackTraces = false) (x1 : Nat) (h0 : aH) : MO (fun (v : Int32) => .inl (some (.int v))) l E yX9_sectionOfWord (.code yX9_sectionOfWord cX9_sectionOfWord 2 (some .int)) 8 243 [.ref (e_z E + x1)] h0 (m_X9_sectionOfWord x1 h0) := g_met hl (by decide +kernel) (Nat.le_of_ble_eq_true rfl) (b_X9_sectionOfWord hl _ _ x1 h0)
theorem dX9_nameIn_0 : decode cX9_nameIn 0 = .ok (.iload_n 2, 1) := by decide +kernel
theorem dX9_nameIn_1 : decode cX9_nameIn 1 = .ok (.iload_n 1, 1) := by decide +kernel
theorem dX9_nameIn_2 : decode cX9_nameIn 2 = .ok (.isub, 1) := by decide +kernel
theorem dX9_nameIn_3 : decode cX9_nameIn 3 = .ok (.bipush 8, 2) := by decide +kernel
theorem dX9_nameIn_5 : decode cX9_nameIn 5 = .ok (.if_icmp .le 7, 3) := by decide +kernel
theorem dX9_nameIn_8 : decode cX9_nameIn 8 = .ok (.ldc2_w 82, 3) := by decide +kernel
theorem dX9_nameIn_11 : decode cX9_nameIn 11 = .ok (.lreturn, 1) := by decide +kernel
theorem dX9_nameIn_12 : decode cX9_nameIn 12 = .ok (.lconst 0, 1) := by decide +kernel
theorem dX9_nameIn_13 : decode cX9_nameIn 13 = .ok (.lstore_n 3, 1) := by decide +kernel
theorem dX9_nameIn_14 : decode cX9_nameIn 14 = .ok (.iload_n 1, 1) := by decide +kernel
theorem dX9_nameIn_15 : decode cX9_nameIn 15 = .ok (.istore 5, 2) := by decide +kernel
theorem dX9_nameIn_17 : decode cX9_nameIn 17 = .ok (.iload 5, 2) := by decide +kernel
theorem dX9_nameIn_19 : decode cX9_nameIn 19 = .ok (.iload_n 2, 1) := by decide +kernel
theorem dX9_nameIn_20 : decode cX9_nameIn 20 = .ok (.if_icmp .ge 27, 3) := by decide +kernel
theorem dX9_nameIn_23 : decode cX9_nameIn 23 = .ok (.lload_n 3, 1) := by decide +kernel
theorem dX9_nameIn_24 : decode cX9_nameIn 24 = .ok (.iconst 5, 1) := by decide +kernel
theorem dX9_nameIn_25 : decode cX9_nameIn 25 = .ok (.lshl, 1) := by decide +kernel
theorem dX9_nameIn_26 : decode cX9_nameIn 26 = .ok (.aload_n 0, 1) := by decide +kernel
theorem dX9_nameIn_27 : decode cX9_nameIn 27 = .ok (.getfield 15, 3) := by decide +kernel
theorem dX9_nameIn_30 : decode cX9_nameIn 30 = .ok (.iload 5, 2) := by decide +kernel
theorem dX9_nameIn_32 : decode cX9_nameIn 32 = .ok (.baload, 1) := by decide +kernel
theorem dX9_nameIn_33 : decode cX9_nameIn 33 = .ok (.bipush 97, 2) := by decide +kernel
theorem dX9_nameIn_35 : decode cX9_nameIn 35 = .ok (.isub, 1) := by decide +kernel
theorem dX9_nameIn_36 : decode cX9_nameIn 36 = .ok (.iconst 1, 1) := by decide +kernel
theorem dX9_nameIn_37 : decode cX9_nameIn 37 = .ok (.iadd, 1) := by decide +kernel
theorem dX9_nameIn_38 : decode cX9_nameIn 38 = .ok (.i2l, 1) := by decide +kernel
theorem dX9_nameIn_39 : decode cX9_nameIn 39 = .ok (.lor, 1) := by decide +kernel
theorem dX9_nameIn_40 : decode cX9_nameIn 40 = .ok (.lstore_n 3, 1) := by decide +kernel
theorem dX9_nameIn_41 : decode cX9_nameIn 41 = .ok (.iinc 5 1, 3) := by decide +kernel
theorem dX9_nameIn_44 : decode cX9_nameIn 44 = .ok (.goto (-27), 3) := by decide +kernel
theorem dX9_nameIn_47 : decode cX9_nameIn 47 = .ok (.lload_n 3, 1) := by decide +kernel
theorem dX9_nameIn_48 : decode cX9_nameIn 48 = .ok (.lreturn, 1) := by decide +kernel
abbrev M_X9_nameIn : aM := (yX9_nameIn.cls, cX9_nameIn, 6, (some .long), [], yX9_nameIn.name == "<init>")
abbrev J_X9_nameIn (l : Launch) (E : aE) (n0 m0 : Nat) := GG (fun (v : Int64) => .inl (some (.long v))) l E M_X9_nameIn 0 0 n0 m0
theorem b_X9_nameIn {l : Launch} {E : aE} (hl : l.stackTraces = false) (n0 m0 : Nat) (x1 : Nat) (x2 : Int32) (x3 : Int32) (h0 : aH) : J_X9_nameIn l E n0 m0 0 [(0, .ref (e_z E + x1)), (1, .int x2), (2, .int x3)] [] h0 (m_X9_nameIn x1 x2 x3 h0) := by
  unfold m_X9_nameIn
  refine g_iload_n (pc := 0) dX9_nameIn_0 2 rfl ?_
  refine g_iload_n (pc := 1) dX9_nameIn_1 1 rfl ?_
  refine g_isub (pc := 2) dX9_nameIn_2 ?_
  refine g_bipush (pc := 3) dX9_nameIn_3 cb_8 ?_
  refine g_icmple (pc := 5) (tgt := 12) dX9_nameIn_5 rfl ?_ ?_
  · refine g_lconst (pc := 12) dX9_nameIn_12 cl_0 ?_
    refine g_lstore_n (pc := 13) (lv' := [(3, .long (0 : Int64)), (0, .ref (e_z E + x1)), (1, .int x2), (2, .int x3)]) dX9_nameIn_13 (Nat.le_of_ble_eq_true rfl) rfl ?_
    refine g_iload_n (pc := 14) dX9_nameIn_14 2 rfl ?_
    refine g_istore (pc := 15) (lv' := [(5, .int x2), (3, .long (0 : Int64)), (0, .ref (e_z E + x1)), (1, .int x2), (2, .int x3)]) dX9_nameIn_15 (Nat.le_of_ble_eq_true rfl) rfl ?_
    refine g_join (fun k => ∀ (x4 : Int64) (h1 : aH), J_X9_nameIn l E n0 m0 47 [(3, .long x4)] [] h1 (k x4 h1)) (fun x4 h1 => ?_) (fun k47 hk47 => ?_)
    · refine g_lload_n (pc := 47) dX9_nameIn_47 0 rfl ?_
      exact g_ret (pc := 48) rfl (isRet_l _) dX9_nameIn_48 rfl
    refine g_lv [2, 4, 1, 0] rfl ?_
    refine g_loop2 (F := (m_X9_nameIn_L17 x1 x3 k47)) (fun x5 x6 => [(0, .ref (e_z E + x1)), (2, .int x3), (3, .long x5), (5, .int x6)]) (fun r17 hr17 x5 x6 h2 => ?_) _ _ _ _
    unfold m_X9_nameIn_L17
    refine g_iload (pc := 17) dX9_nameIn_17 3 rfl ?_
    refine g_iload_n (pc := 19) dX9_nameIn_19 1 rfl ?_
    refine g_icmpge (pc := 20) (tgt := 47) dX9_nameIn_20 rfl ?_ ?_
    · refine g_lload_n (pc := 23) dX9_nameIn_23 2 rfl ?_
      refine g_iconst (pc := 24) dX9_nameIn_24 ci_5 ?_
      refine g_lshl (pc := 25) dX9_nameIn_25 ?_
      refine g_aload_n (pc := 26) dX9_nameIn_26 0 rfl ?_
      refine g_getr (pc := 27) cl9 (Nat.le_of_ble_eq_true rfl) fk43 (fun _ _ _ => rfl) dX9_nameIn_27 (fun x7 => ?_)
      refine g_iload (pc := 30) dX9_nameIn_30 3 rfl ?_
      refine g_bald (pc := 32) dX9_nameIn_32 (fun x8 => ?_)
      refine g_bipush (pc := 33) dX9_nameIn_33 cb_97 ?_
      refine g_isub (pc := 35) dX9_nameIn_35 ?_
      refine g_iconst (pc := 36) dX9_nameIn_36 ci_1 ?_
      refine g_iadd (pc := 37) dX9_nameIn_37 ?_
      refine g_i2l (pc := 38) dX9_nameIn_38 ?_
      refine g_lor (pc := 39) dX9_nameIn_39 ?_
      refine g_topl (fun x9 => ?_)
      refine g_lstore_n (pc := 40) (lv' := [(3, .long x9), (0, .ref (e_z E + x1)), (2, .int x3), (5, .int x6)]) dX9_nameIn_40 (Nat.le_of_ble_eq_true rfl) rfl ?_
      refine g_iincN (pc := 41) dX9_nameIn_41 3 rfl ci_1 (Nat.le_of_ble_eq_true rfl) (fun x10 => ?_)
      refine g_lvr (lv' := [(5, .int x10), (3, .long x9), (0, .ref (e_z E + x1)), (2, .int x3)]) rfl ?_
      refine g_goto (pc := 44) (tgt := 17) dX9_nameIn_44 rfl ?_
      refine g_lv [2, 3, 1, 0] rfl ?_
      exact hr17 x9 x10 h2
    · refine g_lv [2] rfl ?_
      exact hk47 x5 h2
  · refine g_ldc2 (pc := 8) tw772 dX9_nameIn_8 ?_
    exact g_ret (pc := 11) rfl (isRet_l _) dX9_nameIn_11 rfl
theorem p_X9_nameIn {l : Launch} {E : aE} (hl : l.stackTraces = false) (x1 : Nat) (x2 : Int32) (x3 : Int32) (h0 : aH) : MO (fun (v : Int64) => .inl (some (.long v))) l E yX9_nameIn (.code yX9_nameIn cX9_nameIn 6 (some .long)) 0 0 [.ref (e_z E + x1), .int x2, .int x3] h0 (m_X9_nameIn x1 x2 x3 h0) := g_met hl (by decide +kernel) (Nat.le_of_ble_eq_true rfl) (b_X9_nameIn hl _ _ x1 x2 x3 h0)
theorem dX9_takesName_0 : decode cX9_takesName 0 = .ok (.aload_n 0, 1) := by decide +kernel
theorem dX9_takesName_1 : decode cX9_takesName 1 = .ok (.getfield 50, 3) := by decide +kernel
theorem dX9_takesName_4 : decode cX9_takesName 4 = .ok (.iconst 1, 1) := by decide +kernel
theorem dX9_takesName_5 : decode cX9_takesName 5 = .ok (.if_icmp .ne 18, 3) := by decide +kernel
theorem dX9_takesName_8 : decode cX9_takesName 8 = .ok (.aload_n 0, 1) := by decide +kernel
theorem dX9_takesName_9 : decode cX9_takesName 9 = .ok (.aload_n 0, 1) := by decide +kernel
theorem dX9_takesName_10 : decode cX9_takesName 10 = .ok (.getfield 88, 3) := by decide +kernel
theorem dX9_takesName_13 : decode cX9_takesName 13 = .ok (.aload_n 0, 1) := by decide +kernel
theorem dX9_takesName_14 : decode cX9_takesName 14 = .ok (.getfield 32, 3) := by decide +kernel
theorem dX9_takesName_17 : decode cX9_takesName 17 = .ok (.invokevirtual 84, 3) := by decide +kernel
theorem dX9_takesName_20 : decode cX9_takesName 20 = .ok (.goto 6, 3) := by decide +kernel
theorem dX9_takesName_23 : decode cX9_takesName 23 = .ok (.ldc2_w 82, 3) := by decide +kernel
theorem dX9_takesName_26 : decode cX9_takesName 26 = .ok (.lstore_n 1, 1) := by decide +kernel
theorem dX9_takesName_27 : decode cX9_takesName 27 = .ok (.lload_n 1, 1) := by decide +kernel
theorem dX9_takesName_28 : decode cX9_takesName 28 = .ok (.ldc2_w 82, 3) := by decide +kernel
theorem dX9_takesName_31 : decode cX9_takesName 31 = .ok (.lcmp, 1) := by decide +kernel
theorem dX9_takesName_32 : decode cX9_takesName 32 = .ok (.ifCond .ne 9, 3) := by decide +kernel
theorem dX9_takesName_35 : decode cX9_takesName 35 = .ok (.aload_n 0, 1) := by decide +kernel
theorem dX9_takesName_36 : decode cX9_takesName 36 = .ok (.iconst 1, 1) := by decide +kernel
theorem dX9_takesName_37 : decode cX9_takesName 37 = .ok (.invokevirtual 57, 3) := by decide +kernel
theorem dX9_takesName_40 : decode cX9_takesName 40 = .ok (.ireturn, 1) := by decide +kernel
theorem dX9_takesName_41 : decode cX9_takesName 41 = .ok (.aload_n 0, 1) := by decide +kernel
theorem dX9_takesName_42 : decode cX9_takesName 42 = .ok (.lload_n 1, 1) := by decide +kernel
theorem dX9_takesName_43 : decode cX9_takesName 43 = .ok (.putfield 112, 3) := by decide +kernel
theorem dX9_takesName_46 : decode cX9_takesName 46 = .ok (.aload_n 0, 1) := by decide +kernel
theorem dX9_takesName_47 : decode cX9_takesName 47 = .ok (.invokevirtual 43, 3) := by decide +kernel
theorem dX9_takesName_50 : decode cX9_takesName 50 = .ok (.iconst 1, 1) := by decide +kernel
theorem dX9_takesName_51 : decode cX9_takesName 51 = .ok (.ireturn, 1) := by decide +kernel
abbrev M_X9_takesName : aM := (yX9_takesName.cls, cX9_takesName, 3, (some .boolean), [], yX9_takesName.name == "<init>")
abbrev J_X9_takesName (l : Launch) (E : aE) (n0 m0 : Nat) := GG (fun (v : Int32) => .inl (some (.int v))) l E M_X9_takesName 2 43 n0 m0
theorem b_X9_takesName {l : Launch} {E : aE} (hl : l.stackTraces = false) (n0 m0 : Nat) (x1 : Nat) (h0 : aH) : J_X9_takesName l E n0 m0 0 [(0, .ref (e_z E + x1))] [] h0 (m_X9_takesName x1 h0) := by
  unfold m_X9_takesName
  refine g_aload_n (pc := 0) dX9_takesName_0 0 rfl ?_
  refine g_geti (pc := 1) cl9 (Nat.le_of_ble_eq_true rfl) fk46 (fun _ _ _ => rfl) dX9_takesName_1 (fun x2 => ?_)
  refine g_iconst (pc := 4) dX9_takesName_4 ci_1 ?_
  refine g_join (fun k => ∀ (x3 : Int64) (h1 : aH), J_X9_takesName l E n0 m0 26 [(0, .ref (e_z E + x1))] [.long x3] h1 (k x3 h1)) (fun x3 h1 => ?_) (fun k26 hk26 => ?_)
  · refine g_lstore_n (pc := 26) (lv' := [(1, .long x3), (0, .ref (e_z E + x1))]) dX9_takesName_26 (Nat.le_of_ble_eq_true rfl) rfl ?_
    refine g_lload_n (pc := 27) dX9_takesName_27 0 rfl ?_
    refine g_ldc2 (pc := 28) tw772 dX9_takesName_28 ?_
    refine g_lcmp (pc := 31) dX9_takesName_31 ?_
    refine g_ifne (pc := 32) (tgt := 41) dX9_takesName_32 rfl ?_ ?_
    · refine g_aload_n (pc := 35) dX9_takesName_35 1 rfl ?_
      refine g_iconst (pc := 36) dX9_takesName_36 ci_1 ?_
      refine g_gS (fun hs => ?_)
      refine g_bRi (pc := 37) (c_V cl9 hs (p_X9_fails hl x1 (1 : Int32) h1) y_X9_fails tw727 dX9_takesName_37 rfl (st := []) rfl (Nat.le_of_ble_eq_true rfl) (Nat.le_of_ble_eq_true rfl) (Nat.le_of_ble_eq_true rfl)) (fun x4 h2 => ?_)
      refine g_zO (fun hz => ?_)
      exact g_ret (pc := 40) rfl (isRet_z hz) dX9_takesName_40 rfl
    · refine g_aload_n (pc := 41) dX9_takesName_41 1 rfl ?_
      refine g_lload_n (pc := 42) dX9_takesName_42 0 rfl ?_
      refine g_putl (pc := 43) cl9 (Nat.le_of_ble_eq_true rfl) (Or.inl ⟨rfl, fk51⟩) (fun _ _ _ => rfl) (fun _ => ⟨rfl, rfl⟩) dX9_takesName_43 (fun h3 => ?_)
      refine g_aload_n (pc := 46) dX9_takesName_46 1 rfl ?_
      refine g_gS (fun hs => ?_)
      refine g_bRv (pc := 47) (c_V cl9 hs (p_X9_take hl x1 h3) y_X9_take tw660 dX9_takesName_47 rfl (st := []) rfl (Nat.le_of_ble_eq_true rfl) (Nat.le_of_ble_eq_true rfl) (Nat.le_of_ble_eq_true rfl)) (fun _ h4 => ?_)
      refine g_iconst (pc := 50) dX9_takesName_50 ci_1 ?_
      exact g_ret (pc := 51) rfl (isRet_z (Or.inr rfl)) dX9_takesName_51 rfl
  refine g_icmpne (pc := 5) (tgt := 23) dX9_takesName_5 rfl ?_ ?_
  · refine g_aload_n (pc := 8) dX9_takesName_8 0 rfl ?_
    refine g_aload_n (pc := 9) dX9_takesName_9 0 rfl ?_
    refine g_geti (pc := 10) cl9 (Nat.le_of_ble_eq_true rfl) fk47 (fun _ _ _ => rfl) dX9_takesName_10 (fun x6 => ?_)
    refine g_aload_n (pc := 13) dX9_takesName_13 0 rfl ?_
    refine g_geti (pc := 14) cl9 (Nat.le_of_ble_eq_true rfl) fk48 (fun _ _ _ => rfl) dX9_takesName_14 (fun x7 => ?_)
    refine g_gS (fun hs => ?_)
    refine g_bRl (pc := 17) (c_V cl9 hs (p_X9_nameIn hl x1 x6 x7 h0) y_X9_nameIn tw768 dX9_takesName_17 rfl (st := []) rfl (Nat.le_of_ble_eq_true rfl) (Nat.le_of_ble_eq_true rfl) (Nat.le_of_ble_eq_true rfl)) (fun x8 h5 => ?_)
    refine g_goto (pc := 20) (tgt := 26) dX9_takesName_20 rfl ?_
    exact hk26 x8 h5
  · refine g_ldc2 (pc := 23) tw772 dX9_takesName_23 ?_
    exact hk26 (-1 : Int64) h0
theorem p_X9_takesName {l : Launch} {E : aE} (hl : l.stackTraces = false) (x1 : Nat) (h0 : aH) : MO (fun (v : Int32) => .inl (some (.int v))) l E yX9_takesName (.code yX9_takesName cX9_takesName 3 (some .boolean)) 2 43 [.ref (e_z E + x1)] h0 (m_X9_takesName x1 h0) := g_met hl (by decide +kernel) (Nat.le_of_ble_eq_true rfl) (b_X9_takesName hl _ _ x1 h0)
theorem dX9_takesNewName_0 : decode cX9_takesNewName 0 = .ok (.aload_n 0, 1) := by decide +kernel
theorem dX9_takesNewName_1 : decode cX9_takesNewName 1 = .ok (.invokevirtual 116, 3) := by decide +kernel
theorem dX9_takesNewName_4 : decode cX9_takesNewName 4 = .ok (.ifCond .ne 5, 3) := by decide +kernel
theorem dX9_takesNewName_7 : decode cX9_takesNewName 7 = .ok (.iconst 0, 1) := by decide +kernel
theorem dX9_takesNewName_8 : decode cX9_takesNewName 8 = .ok (.ireturn, 1) := by decide +kernel
theorem dX9_takesNewName_9 : decode cX9_takesNewName 9 = .ok (.aload_n 0, 1) := by decide +kernel
theorem dX9_takesNewName_10 : decode cX9_takesNewName 10 = .ok (.getfield 28, 3) := by decide +kernel
theorem dX9_takesNewName_13 : decode cX9_takesNewName 13 = .ok (.iload_n 1, 1) := by decide +kernel
theorem dX9_takesNewName_14 : decode cX9_takesNewName 14 = .ok (.aload_n 0, 1) := by decide +kernel
theorem dX9_takesNewName_15 : decode cX9_takesNewName 15 = .ok (.getfield 112, 3) := by decide +kernel
theorem dX9_takesNewName_18 : decode cX9_takesNewName 18 = .ok (.invokevirtual 119, 3) := by decide +kernel
theorem dX9_takesNewName_21 : decode cX9_takesNewName 21 = .ok (.iconst (-1), 1) := by decide +kernel
theorem dX9_takesNewName_22 : decode cX9_takesNewName 22 = .ok (.if_icmp .eq 15, 3) := by decide +kernel
theorem dX9_takesNewName_25 : decode cX9_takesNewName 25 = .ok (.aload_n 0, 1) := by decide +kernel
theorem dX9_takesNewName_26 : decode cX9_takesNewName 26 = .ok (.iconst 3, 1) := by decide +kernel
theorem dX9_takesNewName_27 : decode cX9_takesNewName 27 = .ok (.aload_n 0, 1) := by decide +kernel
theorem dX9_takesNewName_28 : decode cX9_takesNewName 28 = .ok (.getfield 91, 3) := by decide +kernel
theorem dX9_takesNewName_31 : decode cX9_takesNewName 31 = .ok (.invokevirtual 105, 3) := by decide +kernel
theorem dX9_takesNewName_34 : decode cX9_takesNewName 34 = .ok (.ifCond .eq 7, 3) := by decide +kernel
theorem dX9_takesNewName_37 : decode cX9_takesNewName 37 = .ok (.iconst 1, 1) := by decide +kernel
theorem dX9_takesNewName_38 : decode cX9_takesNewName 38 = .ok (.goto 4, 3) := by decide +kernel
theorem dX9_takesNewName_41 : decode cX9_takesNewName 41 = .ok (.iconst 0, 1) := by decide +kernel
theorem dX9_takesNewName_42 : decode cX9_takesNewName 42 = .ok (.ireturn, 1) := by decide +kernel
abbrev M_X9_takesNewName : aM := (yX9_takesNewName.cls, cX9_takesNewName, 2, (some .boolean), [], yX9_takesNewName.name == "<init>")
abbrev J_X9_takesNewName (l : Launch) (E : aE) (n0 m0 : Nat) := GG (fun (v : Int32) => .inl (some (.int v))) l E M_X9_takesNewName 3 65 n0 m0
theorem b_X9_takesNewName {l : Launch} {E : aE} (hl : l.stackTraces = false) (n0 m0 : Nat) (x1 : Nat) (x2 : Int32) (h0 : aH) : J_X9_takesNewName l E n0 m0 0 [(0, .ref (e_z E + x1)), (1, .int x2)] [] h0 (m_X9_takesNewName x1 x2 h0) := by
  unfold m_X9_takesNewName
  refine g_aload_n (pc := 0) dX9_takesNewName_0 0 rfl ?_
  refine g_gS (fun hs => ?_)
  refine g_bRi (pc := 1) (c_V cl9 hs (p_X9_takesName hl x1 h0) y_X9_takesName tw764 dX9_takesNewName_1 rfl (st := []) rfl (Nat.le_of_ble_eq_true rfl) (Nat.le_of_ble_eq_true rfl) (Nat.le_of_ble_eq_true rfl)) (fun x3 h1 => ?_)
  refine g_ifne (pc := 4) (tgt := 9) dX9_takesNewName_4 rfl ?_ ?_
  · refine g_iconst (pc := 7) dX9_takesNewName_7 ci_0 ?_
    exact g_ret (pc := 8) rfl (isRet_z (Or.inl rfl)) dX9_takesNewName_8 rfl
  · refine g_aload_n (pc := 9) dX9_takesNewName_9 0 rfl ?_
    refine g_getr (pc := 10) cl9 (Nat.le_of_ble_eq_true rfl) fk45 (fun _ _ _ => rfl) dX9_takesNewName_10 (fun x4 => ?_)
    refine g_iload_n (pc := 13) dX9_takesNewName_13 1 rfl ?_
    refine g_aload_n (pc := 14) dX9_takesNewName_14 0 rfl ?_
    refine g_getl (pc := 15) cl9 (Nat.le_of_ble_eq_true rfl) fk51 (fun _ _ _ => rfl) dX9_takesNewName_15 (fun x5 => ?_)
    refine g_gS (fun hs => ?_)
    refine g_bRi (pc := 18) (c_VN cl8 hs (p_X8_numberOf hl x4 x2 x5 h1) y_X8_numberOf tw773 dX9_takesNewName_18 rfl (st := []) rfl (Nat.le_of_ble_eq_true rfl) (Nat.le_of_ble_eq_true rfl) (Nat.le_of_ble_eq_true rfl)) (fun x6 h2 => ?_)
    refine g_iconst (pc := 21) dX9_takesNewName_21 ci_m1 ?_
    refine g_join (fun k => ∀ (x7 : Int32) (h3 : aH), J_X9_takesNewName l E n0 m0 42 [] [.int x7] h3 (k x7 h3)) (fun x7 h3 => ?_) (fun k42 hk42 => ?_)
    · refine g_zO (fun hz => ?_)
      exact g_ret (pc := 42) rfl (isRet_z hz) dX9_takesNewName_42 rfl
    refine g_join (fun k => ∀ (h4 : aH), J_X9_takesNewName l E n0 m0 37 [] [] h4 (k h4)) (fun h4 => ?_) (fun k37 hk37 => ?_)
    · refine g_iconst (pc := 37) dX9_takesNewName_37 ci_1 ?_
      refine g_goto (pc := 38) (tgt := 42) dX9_takesNewName_38 rfl ?_
      exact hk42 (1 : Int32) h4
    refine g_icmpeq (pc := 22) (tgt := 37) dX9_takesNewName_22 rfl ?_ ?_
    · refine g_lv [] rfl ?_
      exact hk37 h2
    · refine g_aload_n (pc := 25) dX9_takesNewName_25 0 rfl ?_
      refine g_iconst (pc := 26) dX9_takesNewName_26 ci_3 ?_
      refine g_aload_n (pc := 27) dX9_takesNewName_27 0 rfl ?_
      refine g_geti (pc := 28) cl9 (Nat.le_of_ble_eq_true rfl) fk49 (fun _ _ _ => rfl) dX9_takesNewName_28 (fun x9 => ?_)
      refine g_gS (fun hs => ?_)
      refine g_bRi (pc := 31) (c_V cl9 hs (p_X9_failsAt hl x1 (3 : Int32) x9 h2) y_X9_failsAt tw731 dX9_takesNewName_31 rfl (st := []) rfl (Nat.le_of_ble_eq_true rfl) (Nat.le_of_ble_eq_true rfl) (Nat.le_of_ble_eq_true rfl)) (fun x10 h5 => ?_)
      refine g_ifeq (pc := 34) (tgt := 41) dX9_takesNewName_34 rfl ?_ ?_
      · refine g_iconst (pc := 41) dX9_takesNewName_41 ci_0 ?_
        refine g_lv [] rfl ?_
        exact hk42 (0 : Int32) h5
      · refine g_lv [] rfl ?_
        exact hk37 h5
theorem p_X9_takesNewName {l : Launch} {E : aE} (hl : l.stackTraces = false) (x1 : Nat) (x2 : Int32) (h0 : aH) : MO (fun (v : Int32) => .inl (some (.int v))) l E yX9_takesNewName (.code yX9_takesNewName cX9_takesNewName 2 (some .boolean)) 3 65 [.ref (e_z E + x1), .int x2] h0 (m_X9_takesNewName x1 x2 h0) := g_met hl (by decide +kernel) (Nat.le_of_ble_eq_true rfl) (b_X9_takesNewName hl _ _ x1 x2 h0)
theorem dX9_skillOfWord_0 : decode cX9_skillOfWord 0 = .ok (.aload_n 0, 1) := by decide +kernel
theorem dX9_skillOfWord_1 : decode cX9_skillOfWord 1 = .ok (.ldc 182, 2) := by decide +kernel
theorem dX9_skillOfWord_3 : decode cX9_skillOfWord 3 = .ok (.invokevirtual 125, 3) := by decide +kernel
theorem dX9_skillOfWord_6 : decode cX9_skillOfWord 6 = .ok (.ifCond .eq 5, 3) := by decide +kernel
theorem dX9_skillOfWord_9 : decode cX9_skillOfWord 9 = .ok (.iconst 1, 1) := by decide +kernel
theorem dX9_skillOfWord_10 : decode cX9_skillOfWord 10 = .ok (.ireturn, 1) := by decide +kernel
theorem dX9_skillOfWord_11 : decode cX9_skillOfWord 11 = .ok (.aload_n 0, 1) := by decide +kernel
theorem dX9_skillOfWord_12 : decode cX9_skillOfWord 12 = .ok (.ldc 184, 2) := by decide +kernel
theorem dX9_skillOfWord_14 : decode cX9_skillOfWord 14 = .ok (.invokevirtual 125, 3) := by decide +kernel
theorem dX9_skillOfWord_17 : decode cX9_skillOfWord 17 = .ok (.ifCond .eq 5, 3) := by decide +kernel
theorem dX9_skillOfWord_20 : decode cX9_skillOfWord 20 = .ok (.iconst 2, 1) := by decide +kernel
theorem dX9_skillOfWord_21 : decode cX9_skillOfWord 21 = .ok (.ireturn, 1) := by decide +kernel
theorem dX9_skillOfWord_22 : decode cX9_skillOfWord 22 = .ok (.aload_n 0, 1) := by decide +kernel
theorem dX9_skillOfWord_23 : decode cX9_skillOfWord 23 = .ok (.ldc 186, 2) := by decide +kernel
theorem dX9_skillOfWord_25 : decode cX9_skillOfWord 25 = .ok (.invokevirtual 125, 3) := by decide +kernel
theorem dX9_skillOfWord_28 : decode cX9_skillOfWord 28 = .ok (.ifCond .eq 5, 3) := by decide +kernel
theorem dX9_skillOfWord_31 : decode cX9_skillOfWord 31 = .ok (.iconst 4, 1) := by decide +kernel
theorem dX9_skillOfWord_32 : decode cX9_skillOfWord 32 = .ok (.ireturn, 1) := by decide +kernel
theorem dX9_skillOfWord_33 : decode cX9_skillOfWord 33 = .ok (.aload_n 0, 1) := by decide +kernel
theorem dX9_skillOfWord_34 : decode cX9_skillOfWord 34 = .ok (.ldc 188, 2) := by decide +kernel
theorem dX9_skillOfWord_36 : decode cX9_skillOfWord 36 = .ok (.invokevirtual 125, 3) := by decide +kernel
theorem dX9_skillOfWord_39 : decode cX9_skillOfWord 39 = .ok (.ifCond .eq 8, 3) := by decide +kernel
theorem dX9_skillOfWord_42 : decode cX9_skillOfWord 42 = .ok (.bipush 8, 2) := by decide +kernel
theorem dX9_skillOfWord_44 : decode cX9_skillOfWord 44 = .ok (.goto 4, 3) := by decide +kernel
theorem dX9_skillOfWord_47 : decode cX9_skillOfWord 47 = .ok (.iconst 0, 1) := by decide +kernel
theorem dX9_skillOfWord_48 : decode cX9_skillOfWord 48 = .ok (.ireturn, 1) := by decide +kernel
abbrev M_X9_skillOfWord : aM := (yX9_skillOfWord.cls, cX9_skillOfWord, 1, (some .int), [], yX9_skillOfWord.name == "<init>")
abbrev J_X9_skillOfWord (l : Launch) (E : aE) (n0 m0 : Nat) := GG (fun (v : Int32) => .inl (some (.int v))) l E M_X9_skillOfWord 8 243 n0 m0
theorem b_X9_skillOfWord {l : Launch} {E : aE} (hl : l.stackTraces = false) (n0 m0 : Nat) (x1 : Nat) (h0 : aH) : J_X9_skillOfWord l E n0 m0 0 [(0, .ref (e_z E + x1))] [] h0 (m_X9_skillOfWord x1 h0) := by
  unfold m_X9_skillOfWord
  refine g_aload_n (pc := 0) dX9_skillOfWord_0 0 rfl ?_
  refine g_ldcS (pc := 1) (i := 6) (by decide) rfl dX9_skillOfWord_1 ?_
  refine g_gS (fun hs => ?_)
  refine g_bRi (pc := 3) (c_V cl9 hs (p_X9_isWord hl x1 6 h0) y_X9_isWord tw675 dX9_skillOfWord_3 rfl (st := []) rfl (Nat.le_of_ble_eq_true rfl) (Nat.le_of_ble_eq_true rfl) (Nat.le_of_ble_eq_true rfl)) (fun x2 h1 => ?_)
  refine g_ifeq (pc := 6) (tgt := 11) dX9_skillOfWord_6 rfl ?_ ?_
  · refine g_aload_n (pc := 11) dX9_skillOfWord_11 0 rfl ?_
    refine g_ldcS (pc := 12) (i := 7) (by decide) rfl dX9_skillOfWord_12 ?_
    refine g_gS (fun hs => ?_)
    refine g_bRi (pc := 14) (c_V cl9 hs (p_X9_isWord hl x1 7 h1) y_X9_isWord tw675 dX9_skillOfWord_14 rfl (st := []) rfl (Nat.le_of_ble_eq_true rfl) (Nat.le_of_ble_eq_true rfl) (Nat.le_of_ble_eq_true rfl)) (fun x3 h2 => ?_)
    refine g_ifeq (pc := 17) (tgt := 22) dX9_skillOfWord_17 rfl ?_ ?_
    · refine g_aload_n (pc := 22) dX9_skillOfWord_22 0 rfl ?_
      refine g_ldcS (pc := 23) (i := 8) (by decide) rfl dX9_skillOfWord_23 ?_
      refine g_gS (fun hs => ?_)
      refine g_bRi (pc := 25) (c_V cl9 hs (p_X9_isWord hl x1 8 h2) y_X9_isWord tw675 dX9_skillOfWord_25 rfl (st := []) rfl (Nat.le_of_ble_eq_true rfl) (Nat.le_of_ble_eq_true rfl) (Nat.le_of_ble_eq_true rfl)) (fun x4 h3 => ?_)
      refine g_ifeq (pc := 28) (tgt := 33) dX9_skillOfWord_28 rfl ?_ ?_
      · refine g_aload_n (pc := 33) dX9_skillOfWord_33 0 rfl ?_
        refine g_ldcS (pc := 34) (i := 9) (by decide) rfl dX9_skillOfWord_34 ?_
        refine g_gS (fun hs => ?_)
        refine g_bRi (pc := 36) (c_V cl9 hs (p_X9_isWord hl x1 9 h3) y_X9_isWord tw675 dX9_skillOfWord_36 rfl (st := []) rfl (Nat.le_of_ble_eq_true rfl) (Nat.le_of_ble_eq_true rfl) (Nat.le_of_ble_eq_true rfl)) (fun x5 h4 => ?_)
        refine g_join (fun k => ∀ (x6 : Int32) (h5 : aH), J_X9_skillOfWord l E n0 m0 48 [] [.int x6] h5 (k x6 h5)) (fun x6 h5 => ?_) (fun k48 hk48 => ?_)
        · exact g_ret (pc := 48) rfl (isRet_i _) dX9_skillOfWord_48 rfl
        refine g_ifeq (pc := 39) (tgt := 47) dX9_skillOfWord_39 rfl ?_ ?_
        · refine g_iconst (pc := 47) dX9_skillOfWord_47 ci_0 ?_
          refine g_lv [] rfl ?_
          exact hk48 (0 : Int32) h4
        · refine g_bipush (pc := 42) dX9_skillOfWord_42 cb_8 ?_
          refine g_goto (pc := 44) (tgt := 48) dX9_skillOfWord_44 rfl ?_
          refine g_lv [] rfl ?_
          exact hk48 (8 : Int32) h4
      · refine g_iconst (pc := 31) dX9_skillOfWord_31 ci_4 ?_
        exact g_ret (pc := 32) rfl (isRet_i _) dX9_skillOfWord_32 rfl
    · refine g_iconst (pc := 20) dX9_skillOfWord_20 ci_2 ?_
      exact g_ret (pc := 21) rfl (isRet_i _) dX9_skillOfWord_21 rfl
  · refine g_iconst (pc := 9) dX9_skillOfWord_9 ci_1 ?_
    exact g_ret (pc := 10) rfl (isRet_i _) dX9_skillOfWord_10 rfl
theorem p_X9_skillOfWord {l : Launch} {E : aE} (hl : l.stackTraces = false) (x1 : Nat) (h0 : aH) : MO (fun (v : Int32) => .inl (some (.int v))) l E yX9_skillOfWord (.code yX9_skillOfWord cX9_skillOfWord 1 (some .int)) 8 243 [.ref (e_z E + x1)] h0 (m_X9_skillOfWord x1 h0) := g_met hl (by decide +kernel) (Nat.le_of_ble_eq_true rfl) (b_X9_skillOfWord hl _ _ x1 h0)
theorem dX9_readsPerson_0 : decode cX9_readsPerson 0 = .ok (.aload_n 0, 1) := by decide +kernel
theorem dX9_readsPerson_1 : decode cX9_readsPerson 1 = .ok (.getfield 28, 3) := by decide +kernel
theorem dX9_readsPerson_4 : decode cX9_readsPerson 4 = .ok (.getfield 155, 3) := by decide +kernel
theorem dX9_readsPerson_7 : decode cX9_readsPerson 7 = .ok (.bipush 12, 2) := by decide +kernel
theorem dX9_readsPerson_9 : decode cX9_readsPerson 9 = .ok (.if_icmp .lt 9, 3) := by decide +kernel
theorem dX9_readsPerson_12 : decode cX9_readsPerson 12 = .ok (.aload_n 0, 1) := by decide +kernel
theorem dX9_readsPerson_13 : decode cX9_readsPerson 13 = .ok (.iconst 5, 1) := by decide +kernel
theorem dX9_readsPerson_14 : decode cX9_readsPerson 14 = .ok (.invokevirtual 57, 3) := by decide +kernel
theorem dX9_readsPerson_17 : decode cX9_readsPerson 17 = .ok (.ireturn, 1) := by decide +kernel
theorem dX9_readsPerson_18 : decode cX9_readsPerson 18 = .ok (.aload_n 0, 1) := by decide +kernel
theorem dX9_readsPerson_19 : decode cX9_readsPerson 19 = .ok (.invokevirtual 43, 3) := by decide +kernel
theorem dX9_readsPerson_22 : decode cX9_readsPerson 22 = .ok (.aload_n 0, 1) := by decide +kernel
theorem dX9_readsPerson_23 : decode cX9_readsPerson 23 = .ok (.getfield 28, 3) := by decide +kernel
theorem dX9_readsPerson_26 : decode cX9_readsPerson 26 = .ok (.getfield 158, 3) := by decide +kernel
theorem dX9_readsPerson_29 : decode cX9_readsPerson 29 = .ok (.aload_n 0, 1) := by decide +kernel
theorem dX9_readsPerson_30 : decode cX9_readsPerson 30 = .ok (.getfield 28, 3) := by decide +kernel
theorem dX9_readsPerson_33 : decode cX9_readsPerson 33 = .ok (.getfield 155, 3) := by decide +kernel
theorem dX9_readsPerson_36 : decode cX9_readsPerson 36 = .ok (.aaload, 1) := by decide +kernel
theorem dX9_readsPerson_37 : decode cX9_readsPerson 37 = .ok (.astore_n 1, 1) := by decide +kernel
theorem dX9_readsPerson_38 : decode cX9_readsPerson 38 = .ok (.aload_n 0, 1) := by decide +kernel
theorem dX9_readsPerson_39 : decode cX9_readsPerson 39 = .ok (.iconst 0, 1) := by decide +kernel
theorem dX9_readsPerson_40 : decode cX9_readsPerson 40 = .ok (.invokevirtual 162, 3) := by decide +kernel
theorem dX9_readsPerson_43 : decode cX9_readsPerson 43 = .ok (.ifCond .ne 5, 3) := by decide +kernel
theorem dX9_readsPerson_46 : decode cX9_readsPerson 46 = .ok (.iconst 0, 1) := by decide +kernel
theorem dX9_readsPerson_47 : decode cX9_readsPerson 47 = .ok (.ireturn, 1) := by decide +kernel
theorem dX9_readsPerson_48 : decode cX9_readsPerson 48 = .ok (.aload_n 1, 1) := by decide +kernel
theorem dX9_readsPerson_49 : decode cX9_readsPerson 49 = .ok (.aload_n 0, 1) := by decide +kernel
theorem dX9_readsPerson_50 : decode cX9_readsPerson 50 = .ok (.getfield 112, 3) := by decide +kernel
theorem dX9_readsPerson_53 : decode cX9_readsPerson 53 = .ok (.putfield 165, 3) := by decide +kernel
theorem dX9_readsPerson_56 : decode cX9_readsPerson 56 = .ok (.aload_n 0, 1) := by decide +kernel
theorem dX9_readsPerson_57 : decode cX9_readsPerson 57 = .ok (.iconst 0, 1) := by decide +kernel
theorem dX9_readsPerson_58 : decode cX9_readsPerson 58 = .ok (.bipush 120, 2) := by decide +kernel
theorem dX9_readsPerson_60 : decode cX9_readsPerson 60 = .ok (.invokevirtual 129, 3) := by decide +kernel
theorem dX9_readsPerson_63 : decode cX9_readsPerson 63 = .ok (.ifCond .ne 5, 3) := by decide +kernel
theorem dX9_readsPerson_66 : decode cX9_readsPerson 66 = .ok (.iconst 0, 1) := by decide +kernel
theorem dX9_readsPerson_67 : decode cX9_readsPerson 67 = .ok (.ireturn, 1) := by decide +kernel
theorem dX9_readsPerson_68 : decode cX9_readsPerson 68 = .ok (.aload_n 1, 1) := by decide +kernel
theorem dX9_readsPerson_69 : decode cX9_readsPerson 69 = .ok (.aload_n 0, 1) := by decide +kernel
theorem dX9_readsPerson_70 : decode cX9_readsPerson 70 = .ok (.getfield 109, 3) := by decide +kernel
theorem dX9_readsPerson_73 : decode cX9_readsPerson 73 = .ok (.putfield 170, 3) := by decide +kernel
theorem dX9_readsPerson_76 : decode cX9_readsPerson 76 = .ok (.aload_n 1, 1) := by decide +kernel
theorem dX9_readsPerson_77 : decode cX9_readsPerson 77 = .ok (.bipush 16, 2) := by decide +kernel
theorem dX9_readsPerson_79 : decode cX9_readsPerson 79 = .ok (.putfield 173, 3) := by decide +kernel
theorem dX9_readsPerson_82 : decode cX9_readsPerson 82 = .ok (.iconst 0, 1) := by decide +kernel
theorem dX9_readsPerson_83 : decode cX9_readsPerson 83 = .ok (.istore_n 2, 1) := by decide +kernel
theorem dX9_readsPerson_84 : decode cX9_readsPerson 84 = .ok (.iload_n 2, 1) := by decide +kernel
theorem dX9_readsPerson_85 : decode cX9_readsPerson 85 = .ok (.sipush 1200, 3) := by decide +kernel
theorem dX9_readsPerson_88 : decode cX9_readsPerson 88 = .ok (.if_icmp .ge 61, 3) := by decide +kernel
theorem dX9_readsPerson_91 : decode cX9_readsPerson 91 = .ok (.aload_n 0, 1) := by decide +kernel
theorem dX9_readsPerson_92 : decode cX9_readsPerson 92 = .ok (.getfield 50, 3) := by decide +kernel
theorem dX9_readsPerson_95 : decode cX9_readsPerson 95 = .ok (.iconst 1, 1) := by decide +kernel
theorem dX9_readsPerson_96 : decode cX9_readsPerson 96 = .ok (.if_icmp .ne 53, 3) := by decide +kernel
theorem dX9_readsPerson_99 : decode cX9_readsPerson 99 = .ok (.aload_n 0, 1) := by decide +kernel
theorem dX9_readsPerson_100 : decode cX9_readsPerson 100 = .ok (.invokevirtual 176, 3) := by decide +kernel
theorem dX9_readsPerson_103 : decode cX9_readsPerson 103 = .ok (.istore_n 3, 1) := by decide +kernel
theorem dX9_readsPerson_104 : decode cX9_readsPerson 104 = .ok (.iload_n 3, 1) := by decide +kernel
theorem dX9_readsPerson_105 : decode cX9_readsPerson 105 = .ok (.ifCond .ne 9, 3) := by decide +kernel
theorem dX9_readsPerson_108 : decode cX9_readsPerson 108 = .ok (.aload_n 0, 1) := by decide +kernel
theorem dX9_readsPerson_109 : decode cX9_readsPerson 109 = .ok (.iconst 1, 1) := by decide +kernel
theorem dX9_readsPerson_110 : decode cX9_readsPerson 110 = .ok (.invokevirtual 57, 3) := by decide +kernel
theorem dX9_readsPerson_113 : decode cX9_readsPerson 113 = .ok (.ireturn, 1) := by decide +kernel
theorem dX9_readsPerson_114 : decode cX9_readsPerson 114 = .ok (.aload_n 1, 1) := by decide +kernel
theorem dX9_readsPerson_115 : decode cX9_readsPerson 115 = .ok (.getfield 173, 3) := by decide +kernel
theorem dX9_readsPerson_118 : decode cX9_readsPerson 118 = .ok (.iload_n 3, 1) := by decide +kernel
theorem dX9_readsPerson_119 : decode cX9_readsPerson 119 = .ok (.iand, 1) := by decide +kernel
theorem dX9_readsPerson_120 : decode cX9_readsPerson 120 = .ok (.ifCond .eq 9, 3) := by decide +kernel
theorem dX9_readsPerson_123 : decode cX9_readsPerson 123 = .ok (.aload_n 0, 1) := by decide +kernel
theorem dX9_readsPerson_124 : decode cX9_readsPerson 124 = .ok (.iconst 3, 1) := by decide +kernel
theorem dX9_readsPerson_125 : decode cX9_readsPerson 125 = .ok (.invokevirtual 57, 3) := by decide +kernel
theorem dX9_readsPerson_128 : decode cX9_readsPerson 128 = .ok (.ireturn, 1) := by decide +kernel
theorem dX9_readsPerson_129 : decode cX9_readsPerson 129 = .ok (.aload_n 1, 1) := by decide +kernel
theorem dX9_readsPerson_130 : decode cX9_readsPerson 130 = .ok (.dup, 1) := by decide +kernel
theorem dX9_readsPerson_131 : decode cX9_readsPerson 131 = .ok (.getfield 173, 3) := by decide +kernel
theorem dX9_readsPerson_134 : decode cX9_readsPerson 134 = .ok (.iload_n 3, 1) := by decide +kernel
theorem dX9_readsPerson_135 : decode cX9_readsPerson 135 = .ok (.ior, 1) := by decide +kernel
theorem dX9_readsPerson_136 : decode cX9_readsPerson 136 = .ok (.putfield 173, 3) := by decide +kernel
theorem dX9_readsPerson_139 : decode cX9_readsPerson 139 = .ok (.aload_n 0, 1) := by decide +kernel
theorem dX9_readsPerson_140 : decode cX9_readsPerson 140 = .ok (.invokevirtual 43, 3) := by decide +kernel
theorem dX9_readsPerson_143 : decode cX9_readsPerson 143 = .ok (.iinc 2 1, 3) := by decide +kernel
theorem dX9_readsPerson_146 : decode cX9_readsPerson 146 = .ok (.goto (-62), 3) := by decide +kernel
theorem dX9_readsPerson_149 : decode cX9_readsPerson 149 = .ok (.aload_n 0, 1) := by decide +kernel
theorem dX9_readsPerson_150 : decode cX9_readsPerson 150 = .ok (.getfield 28, 3) := by decide +kernel
theorem dX9_readsPerson_153 : decode cX9_readsPerson 153 = .ok (.invokevirtual 179, 3) := by decide +kernel
theorem dX9_readsPerson_156 : decode cX9_readsPerson 156 = .ok (.iconst 1, 1) := by decide +kernel
theorem dX9_readsPerson_157 : decode cX9_readsPerson 157 = .ok (.ireturn, 1) := by decide +kernel
abbrev M_X9_readsPerson : aM := (yX9_readsPerson.cls, cX9_readsPerson, 4, (some .boolean), [], yX9_readsPerson.name == "<init>")
abbrev J_X9_readsPerson (l : Launch) (E : aE) (n0 m0 : Nat) := GG (fun (v : Int32) => .inl (some (.int v))) l E M_X9_readsPerson 9 263 n0 m0
theorem b_X9_readsPerson {l : Launch} {E : aE} (hl : l.stackTraces = false) (n0 m0 : Nat) (x1 : Nat) (h0 : aH) : J_X9_readsPerson l E n0 m0 0 [(0, .ref (e_z E + x1))] [] h0 (m_X9_readsPerson x1 h0) := by
  unfold m_X9_readsPerson
  refine g_aload_n (pc := 0) dX9_readsPerson_0 0 rfl ?_
  refine g_getr (pc := 1) cl9 (Nat.le_of_ble_eq_true rfl) fk45 (fun _ _ _ => rfl) dX9_readsPerson_1 (fun x2 => ?_)
  refine g_geti (pc := 4) cl8 (Nat.le_of_ble_eq_true rfl) fk242 (fun _ _ _ => rfl) dX9_readsPerson_4 (fun x3 => ?_)
  refine g_bipush (pc := 7) dX9_readsPerson_7 cb_12 ?_
  refine g_icmplt (pc := 9) (tgt := 18) dX9_readsPerson_9 rfl ?_ ?_
  · refine g_aload_n (pc := 18) dX9_readsPerson_18 0 rfl ?_
    refine g_gS (fun hs => ?_)
    refine g_bRv (pc := 19) (c_V cl9 hs (p_X9_take hl x1 h0) y_X9_take tw660 dX9_readsPerson_19 rfl (st := []) rfl (Nat.le_of_ble_eq_true rfl) (Nat.le_of_ble_eq_true rfl) (Nat.le_of_ble_eq_true rfl)) (fun _ h1 => ?_)
    refine g_aload_n (pc := 22) dX9_readsPerson_22 0 rfl ?_
    refine g_getr (pc := 23) cl9 (Nat.le_of_ble_eq_true rfl) fk45 (fun _ _ _ => rfl) dX9_readsPerson_23 (fun x4 => ?_)
    refine g_getr (pc := 26) cl8 (Nat.le_of_ble_eq_true rfl) fk246 (fun _ _ _ => rfl) dX9_readsPerson_26 (fun x5 => ?_)
    refine g_aload_n (pc := 29) dX9_readsPerson_29 0 rfl ?_
    refine g_getr (pc := 30) cl9 (Nat.le_of_ble_eq_true rfl) fk45 (fun _ _ _ => rfl) dX9_readsPerson_30 (fun x6 => ?_)
    refine g_geti (pc := 33) cl8 (Nat.le_of_ble_eq_true rfl) fk242 (fun _ _ _ => rfl) dX9_readsPerson_33 (fun x7 => ?_)
    refine g_aald (pc := 36) (t := 5) (Nat.le_of_ble_eq_true rfl) (Nat.le_of_ble_eq_true rfl) dX9_readsPerson_36 (fun x8 => ?_)
    refine g_astore_n (pc := 37) (lv' := [(1, .ref (e_z E + x8)), (0, .ref (e_z E + x1))]) dX9_readsPerson_37 (Nat.le_of_ble_eq_true rfl) rfl ?_
    refine g_aload_n (pc := 38) dX9_readsPerson_38 1 rfl ?_
    refine g_iconst (pc := 39) dX9_readsPerson_39 ci_0 ?_
    refine g_gS (fun hs => ?_)
    refine g_bRi (pc := 40) (c_V cl9 hs (p_X9_takesNewName hl x1 (0 : Int32) h1) y_X9_takesNewName tw760 dX9_readsPerson_40 rfl (st := []) rfl (Nat.le_of_ble_eq_true rfl) (Nat.le_of_ble_eq_true rfl) (Nat.le_of_ble_eq_true rfl)) (fun x9 h2 => ?_)
    refine g_ifne (pc := 43) (tgt := 48) dX9_readsPerson_43 rfl ?_ ?_
    · refine g_iconst (pc := 46) dX9_readsPerson_46 ci_0 ?_
      exact g_ret (pc := 47) rfl (isRet_z (Or.inl rfl)) dX9_readsPerson_47 rfl
    · refine g_aload_n (pc := 48) dX9_readsPerson_48 0 rfl ?_
      refine g_aload_n (pc := 49) dX9_readsPerson_49 1 rfl ?_
      refine g_getl (pc := 50) cl9 (Nat.le_of_ble_eq_true rfl) fk51 (fun _ _ _ => rfl) dX9_readsPerson_50 (fun x10 => ?_)
      refine g_putl (pc := 53) cl7 (Nat.le_of_ble_eq_true rfl) (Or.inl ⟨rfl, fk121⟩) (fun _ _ _ => rfl) (fun _ => ⟨rfl, rfl⟩) dX9_readsPerson_53 (fun h3 => ?_)
      refine g_aload_n (pc := 56) dX9_readsPerson_56 1 rfl ?_
      refine g_iconst (pc := 57) dX9_readsPerson_57 ci_0 ?_
      refine g_bipush (pc := 58) dX9_readsPerson_58 cb_120 ?_
      refine g_gS (fun hs => ?_)
      refine g_bRi (pc := 60) (c_V cl9 hs (p_X9_takesNumber hl x1 (0 : Int32) (120 : Int32) h3) y_X9_takesNumber tw735 dX9_readsPerson_60 rfl (st := []) rfl (Nat.le_of_ble_eq_true rfl) (Nat.le_of_ble_eq_true rfl) (Nat.le_of_ble_eq_true rfl)) (fun x11 h4 => ?_)
      refine g_ifne (pc := 63) (tgt := 68) dX9_readsPerson_63 rfl ?_ ?_
      · refine g_iconst (pc := 66) dX9_readsPerson_66 ci_0 ?_
        exact g_ret (pc := 67) rfl (isRet_z (Or.inl rfl)) dX9_readsPerson_67 rfl
      · refine g_aload_n (pc := 68) dX9_readsPerson_68 0 rfl ?_
        refine g_aload_n (pc := 69) dX9_readsPerson_69 1 rfl ?_
        refine g_geti (pc := 70) cl9 (Nat.le_of_ble_eq_true rfl) fk50 (fun _ _ _ => rfl) dX9_readsPerson_70 (fun x12 => ?_)
        refine g_puti (pc := 73) cl7 (Nat.le_of_ble_eq_true rfl) (Or.inl ⟨rfl, fk124⟩) (fun _ _ _ => rfl) (fun _ => ⟨rfl, rfl⟩) dX9_readsPerson_73 (fun h5 => ?_)
        refine g_aload_n (pc := 76) dX9_readsPerson_76 0 rfl ?_
        refine g_bipush (pc := 77) dX9_readsPerson_77 cb_16 ?_
        refine g_puti (pc := 79) cl7 (Nat.le_of_ble_eq_true rfl) (Or.inl ⟨rfl, fk126⟩) (fun _ _ _ => rfl) (fun _ => ⟨rfl, rfl⟩) dX9_readsPerson_79 (fun h6 => ?_)
        refine g_iconst (pc := 82) dX9_readsPerson_82 ci_0 ?_
        refine g_istore_n (pc := 83) (lv' := [(2, .int (0 : Int32)), (1, .ref (e_z E + x8)), (0, .ref (e_z E + x1))]) dX9_readsPerson_83 (Nat.le_of_ble_eq_true rfl) rfl ?_
        refine g_join (fun k => ∀ (h7 : aH), J_X9_readsPerson l E n0 m0 149 [(0, .ref (e_z E + x1))] [] h7 (k h7)) (fun h7 => ?_) (fun k149 hk149 => ?_)
        · refine g_aload_n (pc := 149) dX9_readsPerson_149 0 rfl ?_
          refine g_getr (pc := 150) cl9 (Nat.le_of_ble_eq_true rfl) fk45 (fun _ _ _ => rfl) dX9_readsPerson_150 (fun x13 => ?_)
          refine g_gS (fun hs => ?_)
          refine g_bRv (pc := 153) (c_VN cl8 hs (p_X8_addPerson hl x13 h7) y_X8_addPerson tw793 dX9_readsPerson_153 rfl (st := []) rfl (Nat.le_of_ble_eq_true rfl) (Nat.le_of_ble_eq_true rfl) (Nat.le_of_ble_eq_true rfl)) (fun _ h8 => ?_)
          refine g_iconst (pc := 156) dX9_readsPerson_156 ci_1 ?_
          exact g_ret (pc := 157) rfl (isRet_z (Or.inr rfl)) dX9_readsPerson_157 rfl
        refine g_join (fun k => ∀ (h9 : aH), J_X9_readsPerson l E n0 m0 123 [(0, .ref (e_z E + x1))] [] h9 (k h9)) (fun h9 => ?_) (fun k123 hk123 => ?_)
        · refine g_aload_n (pc := 123) dX9_readsPerson_123 0 rfl ?_
          refine g_iconst (pc := 124) dX9_readsPerson_124 ci_3 ?_
          refine g_gS (fun hs => ?_)
          refine g_bRi (pc := 125) (c_V cl9 hs (p_X9_fails hl x1 (3 : Int32) h9) y_X9_fails tw727 dX9_readsPerson_125 rfl (st := []) rfl (Nat.le_of_ble_eq_true rfl) (Nat.le_of_ble_eq_true rfl) (Nat.le_of_ble_eq_true rfl)) (fun x14 h10 => ?_)
          refine g_zO (fun hz => ?_)
          exact g_ret (pc := 128) rfl (isRet_z hz) dX9_readsPerson_128 rfl
        refine g_join (fun k => ∀ (h11 : aH), J_X9_readsPerson l E n0 m0 108 [(0, .ref (e_z E + x1))] [] h11 (k h11)) (fun h11 => ?_) (fun k108 hk108 => ?_)
        · refine g_aload_n (pc := 108) dX9_readsPerson_108 0 rfl ?_
          refine g_iconst (pc := 109) dX9_readsPerson_109 ci_1 ?_
          refine g_gS (fun hs => ?_)
          refine g_bRi (pc := 110) (c_V cl9 hs (p_X9_fails hl x1 (1 : Int32) h11) y_X9_fails tw727 dX9_readsPerson_110 rfl (st := []) rfl (Nat.le_of_ble_eq_true rfl) (Nat.le_of_ble_eq_true rfl) (Nat.le_of_ble_eq_true rfl)) (fun x16 h12 => ?_)
          refine g_zO (fun hz => ?_)
          exact g_ret (pc := 113) rfl (isRet_z hz) dX9_readsPerson_113 rfl
        refine g_lv [2, 1, 0] rfl ?_
        refine g_loop1 (F := (m_X9_readsPerson_L84 x1 x8 k149 k123 k108)) (fun x18 => [(0, .ref (e_z E + x1)), (1, .ref (e_z E + x8)), (2, .int x18)]) (fun r84 hr84 x18 h13 => ?_) _ _ _
        unfold m_X9_readsPerson_L84
        refine g_iload_n (pc := 84) dX9_readsPerson_84 2 rfl ?_
        refine g_sipush (pc := 85) dX9_readsPerson_85 cs_1200 ?_
        refine g_icmpge (pc := 88) (tgt := 149) dX9_readsPerson_88 rfl ?_ ?_
        · refine g_aload_n (pc := 91) dX9_readsPerson_91 0 rfl ?_
          refine g_geti (pc := 92) cl9 (Nat.le_of_ble_eq_true rfl) fk46 (fun _ _ _ => rfl) dX9_readsPerson_92 (fun x19 => ?_)
          refine g_iconst (pc := 95) dX9_readsPerson_95 ci_1 ?_
          refine g_icmpne (pc := 96) (tgt := 149) dX9_readsPerson_96 rfl ?_ ?_
          · refine g_aload_n (pc := 99) dX9_readsPerson_99 0 rfl ?_
            refine g_gS (fun hs => ?_)
            refine g_bRi (pc := 100) (c_V cl9 hs (p_X9_skillOfWord hl x1 h13) y_X9_skillOfWord tw785 dX9_readsPerson_100 rfl (st := []) rfl (Nat.le_of_ble_eq_true rfl) (Nat.le_of_ble_eq_true rfl) (Nat.le_of_ble_eq_true rfl)) (fun x20 h14 => ?_)
            refine g_istore_n (pc := 103) (lv' := [(3, .int x20), (0, .ref (e_z E + x1)), (1, .ref (e_z E + x8)), (2, .int x18)]) dX9_readsPerson_103 (Nat.le_of_ble_eq_true rfl) rfl ?_
            refine g_iload_n (pc := 104) dX9_readsPerson_104 0 rfl ?_
            refine g_ifne (pc := 105) (tgt := 114) dX9_readsPerson_105 rfl ?_ ?_
            · refine g_lv [1] rfl ?_
              exact hk108 h14
            · refine g_aload_n (pc := 114) dX9_readsPerson_114 2 rfl ?_
              refine g_geti (pc := 115) cl7 (Nat.le_of_ble_eq_true rfl) fk126 (fun _ _ _ => rfl) dX9_readsPerson_115 (fun x21 => ?_)
              refine g_iload_n (pc := 118) dX9_readsPerson_118 0 rfl ?_
              refine g_iand (pc := 119) dX9_readsPerson_119 ?_
              refine g_ifeq (pc := 120) (tgt := 129) dX9_readsPerson_120 rfl ?_ ?_
              · refine g_aload_n (pc := 129) dX9_readsPerson_129 2 rfl ?_
                refine g_dup (pc := 130) rfl dX9_readsPerson_130 ?_
                refine g_geti (pc := 131) cl7 (Nat.le_of_ble_eq_true rfl) fk126 (fun _ _ _ => rfl) dX9_readsPerson_131 (fun x22 => ?_)
                refine g_iload_n (pc := 134) dX9_readsPerson_134 0 rfl ?_
                refine g_ior (pc := 135) dX9_readsPerson_135 ?_
                refine g_puti (pc := 136) cl7 (Nat.le_of_ble_eq_true rfl) (Or.inl ⟨rfl, fk126⟩) (fun _ _ _ => rfl) (fun _ => ⟨rfl, rfl⟩) dX9_readsPerson_136 (fun h15 => ?_)
                refine g_aload_n (pc := 139) dX9_readsPerson_139 1 rfl ?_
                refine g_gS (fun hs => ?_)
                refine g_bRv (pc := 140) (c_V cl9 hs (p_X9_take hl x1 h15) y_X9_take tw660 dX9_readsPerson_140 rfl (st := []) rfl (Nat.le_of_ble_eq_true rfl) (Nat.le_of_ble_eq_true rfl) (Nat.le_of_ble_eq_true rfl)) (fun _ h16 => ?_)
                refine g_iincN (pc := 143) dX9_readsPerson_143 3 rfl ci_1 (Nat.le_of_ble_eq_true rfl) (fun x23 => ?_)
                refine g_lvr (lv' := [(2, .int x23), (3, .int x20), (0, .ref (e_z E + x1)), (1, .ref (e_z E + x8))]) rfl ?_
                refine g_goto (pc := 146) (tgt := 84) dX9_readsPerson_146 rfl ?_
                refine g_lv [2, 3, 0] rfl ?_
                exact hr84 x23 h16
              · refine g_lv [1] rfl ?_
                exact hk123 h14
          · refine g_lv [0] rfl ?_
            exact hk149 h13
        · refine g_lv [0] rfl ?_
          exact hk149 h13
  · refine g_aload_n (pc := 12) dX9_readsPerson_12 0 rfl ?_
    refine g_iconst (pc := 13) dX9_readsPerson_13 ci_5 ?_
    refine g_gS (fun hs => ?_)
    refine g_bRi (pc := 14) (c_V cl9 hs (p_X9_fails hl x1 (5 : Int32) h0) y_X9_fails tw727 dX9_readsPerson_14 rfl (st := []) rfl (Nat.le_of_ble_eq_true rfl) (Nat.le_of_ble_eq_true rfl) (Nat.le_of_ble_eq_true rfl)) (fun x24 h17 => ?_)
    refine g_zO (fun hz => ?_)
    exact g_ret (pc := 17) rfl (isRet_z hz) dX9_readsPerson_17 rfl
theorem p_X9_readsPerson {l : Launch} {E : aE} (hl : l.stackTraces = false) (x1 : Nat) (h0 : aH) : MO (fun (v : Int32) => .inl (some (.int v))) l E yX9_readsPerson (.code yX9_readsPerson cX9_readsPerson 4 (some .boolean)) 9 263 [.ref (e_z E + x1)] h0 (m_X9_readsPerson x1 h0) := g_met hl (by decide +kernel) (Nat.le_of_ble_eq_true rfl) (b_X9_readsPerson hl _ _ x1 h0)
theorem dX9_takesNameOf_0 : decode cX9_takesNameOf 0 = .ok (.aload_n 0, 1) := by decide +kernel
theorem dX9_takesNameOf_1 : decode cX9_takesNameOf 1 = .ok (.invokevirtual 116, 3) := by decide +kernel
theorem dX9_takesNameOf_4 : decode cX9_takesNameOf 4 = .ok (.ifCond .ne 5, 3) := by decide +kernel
theorem dX9_takesNameOf_7 : decode cX9_takesNameOf 7 = .ok (.iconst 0, 1) := by decide +kernel
theorem dX9_takesNameOf_8 : decode cX9_takesNameOf 8 = .ok (.ireturn, 1) := by decide +kernel
theorem dX9_takesNameOf_9 : decode cX9_takesNameOf 9 = .ok (.aload_n 0, 1) := by decide +kernel
theorem dX9_takesNameOf_10 : decode cX9_takesNameOf 10 = .ok (.aload_n 0, 1) := by decide +kernel
theorem dX9_takesNameOf_11 : decode cX9_takesNameOf 11 = .ok (.getfield 28, 3) := by decide +kernel
theorem dX9_takesNameOf_14 : decode cX9_takesNameOf 14 = .ok (.iload_n 1, 1) := by decide +kernel
theorem dX9_takesNameOf_15 : decode cX9_takesNameOf 15 = .ok (.aload_n 0, 1) := by decide +kernel
theorem dX9_takesNameOf_16 : decode cX9_takesNameOf 16 = .ok (.getfield 112, 3) := by decide +kernel
theorem dX9_takesNameOf_19 : decode cX9_takesNameOf 19 = .ok (.invokevirtual 119, 3) := by decide +kernel
theorem dX9_takesNameOf_22 : decode cX9_takesNameOf 22 = .ok (.putfield 109, 3) := by decide +kernel
theorem dX9_takesNameOf_25 : decode cX9_takesNameOf 25 = .ok (.aload_n 0, 1) := by decide +kernel
theorem dX9_takesNameOf_26 : decode cX9_takesNameOf 26 = .ok (.getfield 109, 3) := by decide +kernel
theorem dX9_takesNameOf_29 : decode cX9_takesNameOf 29 = .ok (.iconst (-1), 1) := by decide +kernel
theorem dX9_takesNameOf_30 : decode cX9_takesNameOf 30 = .ok (.if_icmp .ne 15, 3) := by decide +kernel
theorem dX9_takesNameOf_33 : decode cX9_takesNameOf 33 = .ok (.aload_n 0, 1) := by decide +kernel
theorem dX9_takesNameOf_34 : decode cX9_takesNameOf 34 = .ok (.iconst 4, 1) := by decide +kernel
theorem dX9_takesNameOf_35 : decode cX9_takesNameOf 35 = .ok (.aload_n 0, 1) := by decide +kernel
theorem dX9_takesNameOf_36 : decode cX9_takesNameOf 36 = .ok (.getfield 91, 3) := by decide +kernel
theorem dX9_takesNameOf_39 : decode cX9_takesNameOf 39 = .ok (.invokevirtual 105, 3) := by decide +kernel
theorem dX9_takesNameOf_42 : decode cX9_takesNameOf 42 = .ok (.ifCond .eq 7, 3) := by decide +kernel
theorem dX9_takesNameOf_45 : decode cX9_takesNameOf 45 = .ok (.iconst 1, 1) := by decide +kernel
theorem dX9_takesNameOf_46 : decode cX9_takesNameOf 46 = .ok (.goto 4, 3) := by decide +kernel
theorem dX9_takesNameOf_49 : decode cX9_takesNameOf 49 = .ok (.iconst 0, 1) := by decide +kernel
theorem dX9_takesNameOf_50 : decode cX9_takesNameOf 50 = .ok (.ireturn, 1) := by decide +kernel
abbrev M_X9_takesNameOf : aM := (yX9_takesNameOf.cls, cX9_takesNameOf, 2, (some .boolean), [], yX9_takesNameOf.name == "<init>")
abbrev J_X9_takesNameOf (l : Launch) (E : aE) (n0 m0 : Nat) := GG (fun (v : Int32) => .inl (some (.int v))) l E M_X9_takesNameOf 3 65 n0 m0
theorem b_X9_takesNameOf {l : Launch} {E : aE} (hl : l.stackTraces = false) (n0 m0 : Nat) (x1 : Nat) (x2 : Int32) (h0 : aH) : J_X9_takesNameOf l E n0 m0 0 [(0, .ref (e_z E + x1)), (1, .int x2)] [] h0 (m_X9_takesNameOf x1 x2 h0) := by
  unfold m_X9_takesNameOf
  refine g_aload_n (pc := 0) dX9_takesNameOf_0 0 rfl ?_
  refine g_gS (fun hs => ?_)
  refine g_bRi (pc := 1) (c_V cl9 hs (p_X9_takesName hl x1 h0) y_X9_takesName tw764 dX9_takesNameOf_1 rfl (st := []) rfl (Nat.le_of_ble_eq_true rfl) (Nat.le_of_ble_eq_true rfl) (Nat.le_of_ble_eq_true rfl)) (fun x3 h1 => ?_)
  refine g_ifne (pc := 4) (tgt := 9) dX9_takesNameOf_4 rfl ?_ ?_
  · refine g_iconst (pc := 7) dX9_takesNameOf_7 ci_0 ?_
    exact g_ret (pc := 8) rfl (isRet_z (Or.inl rfl)) dX9_takesNameOf_8 rfl
  · refine g_aload_n (pc := 9) dX9_takesNameOf_9 0 rfl ?_
    refine g_aload_n (pc := 10) dX9_takesNameOf_10 0 rfl ?_
    refine g_getr (pc := 11) cl9 (Nat.le_of_ble_eq_true rfl) fk45 (fun _ _ _ => rfl) dX9_takesNameOf_11 (fun x4 => ?_)
    refine g_iload_n (pc := 14) dX9_takesNameOf_14 1 rfl ?_
    refine g_aload_n (pc := 15) dX9_takesNameOf_15 0 rfl ?_
    refine g_getl (pc := 16) cl9 (Nat.le_of_ble_eq_true rfl) fk51 (fun _ _ _ => rfl) dX9_takesNameOf_16 (fun x5 => ?_)
    refine g_gS (fun hs => ?_)
    refine g_bRi (pc := 19) (c_VN cl8 hs (p_X8_numberOf hl x4 x2 x5 h1) y_X8_numberOf tw773 dX9_takesNameOf_19 rfl (st := [.ref (e_z E + x1)]) rfl (Nat.le_of_ble_eq_true rfl) (Nat.le_of_ble_eq_true rfl) (Nat.le_of_ble_eq_true rfl)) (fun x6 h2 => ?_)
    refine g_puti (pc := 22) cl9 (Nat.le_of_ble_eq_true rfl) (Or.inl ⟨rfl, fk50⟩) (fun _ _ _ => rfl) (fun _ => ⟨rfl, rfl⟩) dX9_takesNameOf_22 (fun h3 => ?_)
    refine g_aload_n (pc := 25) dX9_takesNameOf_25 0 rfl ?_
    refine g_geti (pc := 26) cl9 (Nat.le_of_ble_eq_true rfl) fk50 (fun _ _ _ => rfl) dX9_takesNameOf_26 (fun x7 => ?_)
    refine g_iconst (pc := 29) dX9_takesNameOf_29 ci_m1 ?_
    refine g_join (fun k => ∀ (x8 : Int32) (h4 : aH), J_X9_takesNameOf l E n0 m0 50 [] [.int x8] h4 (k x8 h4)) (fun x8 h4 => ?_) (fun k50 hk50 => ?_)
    · refine g_zO (fun hz => ?_)
      exact g_ret (pc := 50) rfl (isRet_z hz) dX9_takesNameOf_50 rfl
    refine g_join (fun k => ∀ (h5 : aH), J_X9_takesNameOf l E n0 m0 45 [] [] h5 (k h5)) (fun h5 => ?_) (fun k45 hk45 => ?_)
    · refine g_iconst (pc := 45) dX9_takesNameOf_45 ci_1 ?_
      refine g_goto (pc := 46) (tgt := 50) dX9_takesNameOf_46 rfl ?_
      exact hk50 (1 : Int32) h5
    refine g_icmpne (pc := 30) (tgt := 45) dX9_takesNameOf_30 rfl ?_ ?_
    · refine g_aload_n (pc := 33) dX9_takesNameOf_33 0 rfl ?_
      refine g_iconst (pc := 34) dX9_takesNameOf_34 ci_4 ?_
      refine g_aload_n (pc := 35) dX9_takesNameOf_35 0 rfl ?_
      refine g_geti (pc := 36) cl9 (Nat.le_of_ble_eq_true rfl) fk49 (fun _ _ _ => rfl) dX9_takesNameOf_36 (fun x10 => ?_)
      refine g_gS (fun hs => ?_)
      refine g_bRi (pc := 39) (c_V cl9 hs (p_X9_failsAt hl x1 (4 : Int32) x10 h3) y_X9_failsAt tw731 dX9_takesNameOf_39 rfl (st := []) rfl (Nat.le_of_ble_eq_true rfl) (Nat.le_of_ble_eq_true rfl) (Nat.le_of_ble_eq_true rfl)) (fun x11 h6 => ?_)
      refine g_ifeq (pc := 42) (tgt := 49) dX9_takesNameOf_42 rfl ?_ ?_
      · refine g_iconst (pc := 49) dX9_takesNameOf_49 ci_0 ?_
        refine g_lv [] rfl ?_
        exact hk50 (0 : Int32) h6
      · refine g_lv [] rfl ?_
        exact hk45 h6
    · refine g_lv [] rfl ?_
      exact hk45 h3
theorem p_X9_takesNameOf {l : Launch} {E : aE} (hl : l.stackTraces = false) (x1 : Nat) (x2 : Int32) (h0 : aH) : MO (fun (v : Int32) => .inl (some (.int v))) l E yX9_takesNameOf (.code yX9_takesNameOf cX9_takesNameOf 2 (some .boolean)) 3 65 [.ref (e_z E + x1), .int x2] h0 (m_X9_takesNameOf x1 x2 h0) := g_met hl (by decide +kernel) (Nat.le_of_ble_eq_true rfl) (b_X9_takesNameOf hl _ _ x1 x2 h0)
theorem dX9_readsTrust_0 : decode cX9_readsTrust 0 = .ok (.aload_n 0, 1) := by decide +kernel
theorem dX9_readsTrust_1 : decode cX9_readsTrust 1 = .ok (.getfield 28, 3) := by decide +kernel
theorem dX9_readsTrust_4 : decode cX9_readsTrust 4 = .ok (.getfield 190, 3) := by decide +kernel
theorem dX9_readsTrust_7 : decode cX9_readsTrust 7 = .ok (.bipush 24, 2) := by decide +kernel
theorem dX9_readsTrust_9 : decode cX9_readsTrust 9 = .ok (.if_icmp .lt 9, 3) := by decide +kernel
theorem dX9_readsTrust_12 : decode cX9_readsTrust 12 = .ok (.aload_n 0, 1) := by decide +kernel
theorem dX9_readsTrust_13 : decode cX9_readsTrust 13 = .ok (.iconst 5, 1) := by decide +kernel
theorem dX9_readsTrust_14 : decode cX9_readsTrust 14 = .ok (.invokevirtual 57, 3) := by decide +kernel
theorem dX9_readsTrust_17 : decode cX9_readsTrust 17 = .ok (.ireturn, 1) := by decide +kernel
theorem dX9_readsTrust_18 : decode cX9_readsTrust 18 = .ok (.aload_n 0, 1) := by decide +kernel
theorem dX9_readsTrust_19 : decode cX9_readsTrust 19 = .ok (.invokevirtual 43, 3) := by decide +kernel
theorem dX9_readsTrust_22 : decode cX9_readsTrust 22 = .ok (.aload_n 0, 1) := by decide +kernel
theorem dX9_readsTrust_23 : decode cX9_readsTrust 23 = .ok (.iconst 0, 1) := by decide +kernel
theorem dX9_readsTrust_24 : decode cX9_readsTrust 24 = .ok (.invokevirtual 193, 3) := by decide +kernel
theorem dX9_readsTrust_27 : decode cX9_readsTrust 27 = .ok (.ifCond .ne 5, 3) := by decide +kernel
theorem dX9_readsTrust_30 : decode cX9_readsTrust 30 = .ok (.iconst 0, 1) := by decide +kernel
theorem dX9_readsTrust_31 : decode cX9_readsTrust 31 = .ok (.ireturn, 1) := by decide +kernel
theorem dX9_readsTrust_32 : decode cX9_readsTrust 32 = .ok (.aload_n 0, 1) := by decide +kernel
theorem dX9_readsTrust_33 : decode cX9_readsTrust 33 = .ok (.getfield 109, 3) := by decide +kernel
theorem dX9_readsTrust_36 : decode cX9_readsTrust 36 = .ok (.istore_n 1, 1) := by decide +kernel
theorem dX9_readsTrust_37 : decode cX9_readsTrust 37 = .ok (.aload_n 0, 1) := by decide +kernel
theorem dX9_readsTrust_38 : decode cX9_readsTrust 38 = .ok (.iconst 0, 1) := by decide +kernel
theorem dX9_readsTrust_39 : decode cX9_readsTrust 39 = .ok (.invokevirtual 193, 3) := by decide +kernel
theorem dX9_readsTrust_42 : decode cX9_readsTrust 42 = .ok (.ifCond .ne 5, 3) := by decide +kernel
theorem dX9_readsTrust_45 : decode cX9_readsTrust 45 = .ok (.iconst 0, 1) := by decide +kernel
theorem dX9_readsTrust_46 : decode cX9_readsTrust 46 = .ok (.ireturn, 1) := by decide +kernel
theorem dX9_readsTrust_47 : decode cX9_readsTrust 47 = .ok (.aload_n 0, 1) := by decide +kernel
theorem dX9_readsTrust_48 : decode cX9_readsTrust 48 = .ok (.getfield 109, 3) := by decide +kernel
theorem dX9_readsTrust_51 : decode cX9_readsTrust 51 = .ok (.istore_n 2, 1) := by decide +kernel
theorem dX9_readsTrust_52 : decode cX9_readsTrust 52 = .ok (.iload_n 1, 1) := by decide +kernel
theorem dX9_readsTrust_53 : decode cX9_readsTrust 53 = .ok (.iload_n 2, 1) := by decide +kernel
theorem dX9_readsTrust_54 : decode cX9_readsTrust 54 = .ok (.if_icmp .ne 14, 3) := by decide +kernel
theorem dX9_readsTrust_57 : decode cX9_readsTrust 57 = .ok (.aload_n 0, 1) := by decide +kernel
theorem dX9_readsTrust_58 : decode cX9_readsTrust 58 = .ok (.bipush 6, 2) := by decide +kernel
theorem dX9_readsTrust_60 : decode cX9_readsTrust 60 = .ok (.aload_n 0, 1) := by decide +kernel
theorem dX9_readsTrust_61 : decode cX9_readsTrust 61 = .ok (.getfield 91, 3) := by decide +kernel
theorem dX9_readsTrust_64 : decode cX9_readsTrust 64 = .ok (.invokevirtual 105, 3) := by decide +kernel
theorem dX9_readsTrust_67 : decode cX9_readsTrust 67 = .ok (.ireturn, 1) := by decide +kernel
theorem dX9_readsTrust_68 : decode cX9_readsTrust 68 = .ok (.aload_n 0, 1) := by decide +kernel
theorem dX9_readsTrust_69 : decode cX9_readsTrust 69 = .ok (.getfield 28, 3) := by decide +kernel
theorem dX9_readsTrust_72 : decode cX9_readsTrust 72 = .ok (.getfield 196, 3) := by decide +kernel
theorem dX9_readsTrust_75 : decode cX9_readsTrust 75 = .ok (.iload_n 1, 1) := by decide +kernel
theorem dX9_readsTrust_76 : decode cX9_readsTrust 76 = .ok (.iload_n 2, 1) := by decide +kernel
theorem dX9_readsTrust_77 : decode cX9_readsTrust 77 = .ok (.invokestatic 199, 3) := by decide +kernel
theorem dX9_readsTrust_80 : decode cX9_readsTrust 80 = .ok (.iaload, 1) := by decide +kernel
theorem dX9_readsTrust_81 : decode cX9_readsTrust 81 = .ok (.iconst (-1), 1) := by decide +kernel
theorem dX9_readsTrust_82 : decode cX9_readsTrust 82 = .ok (.if_icmp .eq 13, 3) := by decide +kernel
theorem dX9_readsTrust_85 : decode cX9_readsTrust 85 = .ok (.aload_n 0, 1) := by decide +kernel
theorem dX9_readsTrust_86 : decode cX9_readsTrust 86 = .ok (.iconst 3, 1) := by decide +kernel
theorem dX9_readsTrust_87 : decode cX9_readsTrust 87 = .ok (.aload_n 0, 1) := by decide +kernel
theorem dX9_readsTrust_88 : decode cX9_readsTrust 88 = .ok (.getfield 91, 3) := by decide +kernel
theorem dX9_readsTrust_91 : decode cX9_readsTrust 91 = .ok (.invokevirtual 105, 3) := by decide +kernel
theorem dX9_readsTrust_94 : decode cX9_readsTrust 94 = .ok (.ireturn, 1) := by decide +kernel
theorem dX9_readsTrust_95 : decode cX9_readsTrust 95 = .ok (.aload_n 0, 1) := by decide +kernel
theorem dX9_readsTrust_96 : decode cX9_readsTrust 96 = .ok (.iconst 0, 1) := by decide +kernel
theorem dX9_readsTrust_97 : decode cX9_readsTrust 97 = .ok (.bipush 9, 2) := by decide +kernel
theorem dX9_readsTrust_99 : decode cX9_readsTrust 99 = .ok (.invokevirtual 129, 3) := by decide +kernel
theorem dX9_readsTrust_102 : decode cX9_readsTrust 102 = .ok (.ifCond .ne 5, 3) := by decide +kernel
theorem dX9_readsTrust_105 : decode cX9_readsTrust 105 = .ok (.iconst 0, 1) := by decide +kernel
theorem dX9_readsTrust_106 : decode cX9_readsTrust 106 = .ok (.ireturn, 1) := by decide +kernel
theorem dX9_readsTrust_107 : decode cX9_readsTrust 107 = .ok (.aload_n 0, 1) := by decide +kernel
theorem dX9_readsTrust_108 : decode cX9_readsTrust 108 = .ok (.getfield 28, 3) := by decide +kernel
theorem dX9_readsTrust_111 : decode cX9_readsTrust 111 = .ok (.getfield 196, 3) := by decide +kernel
theorem dX9_readsTrust_114 : decode cX9_readsTrust 114 = .ok (.iload_n 1, 1) := by decide +kernel
theorem dX9_readsTrust_115 : decode cX9_readsTrust 115 = .ok (.iload_n 2, 1) := by decide +kernel
theorem dX9_readsTrust_116 : decode cX9_readsTrust 116 = .ok (.invokestatic 199, 3) := by decide +kernel
theorem dX9_readsTrust_119 : decode cX9_readsTrust 119 = .ok (.aload_n 0, 1) := by decide +kernel
theorem dX9_readsTrust_120 : decode cX9_readsTrust 120 = .ok (.getfield 109, 3) := by decide +kernel
theorem dX9_readsTrust_123 : decode cX9_readsTrust 123 = .ok (.iastore, 1) := by decide +kernel
theorem dX9_readsTrust_124 : decode cX9_readsTrust 124 = .ok (.aload_n 0, 1) := by decide +kernel
theorem dX9_readsTrust_125 : decode cX9_readsTrust 125 = .ok (.getfield 28, 3) := by decide +kernel
theorem dX9_readsTrust_128 : decode cX9_readsTrust 128 = .ok (.dup, 1) := by decide +kernel
theorem dX9_readsTrust_129 : decode cX9_readsTrust 129 = .ok (.getfield 190, 3) := by decide +kernel
theorem dX9_readsTrust_132 : decode cX9_readsTrust 132 = .ok (.iconst 1, 1) := by decide +kernel
theorem dX9_readsTrust_133 : decode cX9_readsTrust 133 = .ok (.iadd, 1) := by decide +kernel
theorem dX9_readsTrust_134 : decode cX9_readsTrust 134 = .ok (.putfield 190, 3) := by decide +kernel
theorem dX9_readsTrust_137 : decode cX9_readsTrust 137 = .ok (.iconst 1, 1) := by decide +kernel
theorem dX9_readsTrust_138 : decode cX9_readsTrust 138 = .ok (.ireturn, 1) := by decide +kernel
abbrev M_X9_readsTrust : aM := (yX9_readsTrust.cls, cX9_readsTrust, 3, (some .boolean), [], yX9_readsTrust.name == "<init>")
abbrev J_X9_readsTrust (l : Launch) (E : aE) (n0 m0 : Nat) := GG (fun (v : Int32) => .inl (some (.int v))) l E M_X9_readsTrust 4 86 n0 m0
theorem b_X9_readsTrust {l : Launch} {E : aE} (hl : l.stackTraces = false) (n0 m0 : Nat) (x1 : Nat) (h0 : aH) : J_X9_readsTrust l E n0 m0 0 [(0, .ref (e_z E + x1))] [] h0 (m_X9_readsTrust x1 h0) := by
  unfold m_X9_readsTrust
  refine g_aload_n (pc := 0) dX9_readsTrust_0 0 rfl ?_
  refine g_getr (pc := 1) cl9 (Nat.le_of_ble_eq_true rfl) fk45 (fun _ _ _ => rfl) dX9_readsTrust_1 (fun x2 => ?_)
  refine g_geti (pc := 4) cl8 (Nat.le_of_ble_eq_true rfl) fk248 (fun _ _ _ => rfl) dX9_readsTrust_4 (fun x3 => ?_)
  refine g_bipush (pc := 7) dX9_readsTrust_7 cb_24 ?_
  refine g_icmplt (pc := 9) (tgt := 18) dX9_readsTrust_9 rfl ?_ ?_
  · refine g_aload_n (pc := 18) dX9_readsTrust_18 0 rfl ?_
    refine g_gS (fun hs => ?_)
    refine g_bRv (pc := 19) (c_V cl9 hs (p_X9_take hl x1 h0) y_X9_take tw660 dX9_readsTrust_19 rfl (st := []) rfl (Nat.le_of_ble_eq_true rfl) (Nat.le_of_ble_eq_true rfl) (Nat.le_of_ble_eq_true rfl)) (fun _ h1 => ?_)
    refine g_aload_n (pc := 22) dX9_readsTrust_22 0 rfl ?_
    refine g_iconst (pc := 23) dX9_readsTrust_23 ci_0 ?_
    refine g_gS (fun hs => ?_)
    refine g_bRi (pc := 24) (c_V cl9 hs (p_X9_takesNameOf hl x1 (0 : Int32) h1) y_X9_takesNameOf tw801 dX9_readsTrust_24 rfl (st := []) rfl (Nat.le_of_ble_eq_true rfl) (Nat.le_of_ble_eq_true rfl) (Nat.le_of_ble_eq_true rfl)) (fun x4 h2 => ?_)
    refine g_ifne (pc := 27) (tgt := 32) dX9_readsTrust_27 rfl ?_ ?_
    · refine g_iconst (pc := 30) dX9_readsTrust_30 ci_0 ?_
      exact g_ret (pc := 31) rfl (isRet_z (Or.inl rfl)) dX9_readsTrust_31 rfl
    · refine g_aload_n (pc := 32) dX9_readsTrust_32 0 rfl ?_
      refine g_geti (pc := 33) cl9 (Nat.le_of_ble_eq_true rfl) fk50 (fun _ _ _ => rfl) dX9_readsTrust_33 (fun x5 => ?_)
      refine g_istore_n (pc := 36) (lv' := [(1, .int x5), (0, .ref (e_z E + x1))]) dX9_readsTrust_36 (Nat.le_of_ble_eq_true rfl) rfl ?_
      refine g_aload_n (pc := 37) dX9_readsTrust_37 1 rfl ?_
      refine g_iconst (pc := 38) dX9_readsTrust_38 ci_0 ?_
      refine g_gS (fun hs => ?_)
      refine g_bRi (pc := 39) (c_V cl9 hs (p_X9_takesNameOf hl x1 (0 : Int32) h2) y_X9_takesNameOf tw801 dX9_readsTrust_39 rfl (st := []) rfl (Nat.le_of_ble_eq_true rfl) (Nat.le_of_ble_eq_true rfl) (Nat.le_of_ble_eq_true rfl)) (fun x6 h3 => ?_)
      refine g_ifne (pc := 42) (tgt := 47) dX9_readsTrust_42 rfl ?_ ?_
      · refine g_iconst (pc := 45) dX9_readsTrust_45 ci_0 ?_
        exact g_ret (pc := 46) rfl (isRet_z (Or.inl rfl)) dX9_readsTrust_46 rfl
      · refine g_aload_n (pc := 47) dX9_readsTrust_47 1 rfl ?_
        refine g_geti (pc := 48) cl9 (Nat.le_of_ble_eq_true rfl) fk50 (fun _ _ _ => rfl) dX9_readsTrust_48 (fun x7 => ?_)
        refine g_istore_n (pc := 51) (lv' := [(2, .int x7), (1, .int x5), (0, .ref (e_z E + x1))]) dX9_readsTrust_51 (Nat.le_of_ble_eq_true rfl) rfl ?_
        refine g_iload_n (pc := 52) dX9_readsTrust_52 1 rfl ?_
        refine g_iload_n (pc := 53) dX9_readsTrust_53 0 rfl ?_
        refine g_icmpne (pc := 54) (tgt := 68) dX9_readsTrust_54 rfl ?_ ?_
        · refine g_aload_n (pc := 57) dX9_readsTrust_57 2 rfl ?_
          refine g_bipush (pc := 58) dX9_readsTrust_58 cb_6 ?_
          refine g_aload_n (pc := 60) dX9_readsTrust_60 2 rfl ?_
          refine g_geti (pc := 61) cl9 (Nat.le_of_ble_eq_true rfl) fk49 (fun _ _ _ => rfl) dX9_readsTrust_61 (fun x8 => ?_)
          refine g_gS (fun hs => ?_)
          refine g_bRi (pc := 64) (c_V cl9 hs (p_X9_failsAt hl x1 (6 : Int32) x8 h3) y_X9_failsAt tw731 dX9_readsTrust_64 rfl (st := []) rfl (Nat.le_of_ble_eq_true rfl) (Nat.le_of_ble_eq_true rfl) (Nat.le_of_ble_eq_true rfl)) (fun x9 h4 => ?_)
          refine g_zO (fun hz => ?_)
          exact g_ret (pc := 67) rfl (isRet_z hz) dX9_readsTrust_67 rfl
        · refine g_aload_n (pc := 68) dX9_readsTrust_68 2 rfl ?_
          refine g_getr (pc := 69) cl9 (Nat.le_of_ble_eq_true rfl) fk45 (fun _ _ _ => rfl) dX9_readsTrust_69 (fun x11 => ?_)
          refine g_getr (pc := 72) cl8 (Nat.le_of_ble_eq_true rfl) fk251 (fun _ _ _ => rfl) dX9_readsTrust_72 (fun x12 => ?_)
          refine g_iload_n (pc := 75) dX9_readsTrust_75 1 rfl ?_
          refine g_iload_n (pc := 76) dX9_readsTrust_76 0 rfl ?_
          refine g_bRi (pc := 77) (c_SN (p_X11_pair hl x5 x7 h3) y_X11_pair tw805 dX9_readsTrust_77 rfl (st := [.ref (e_z E + x12)]) rfl (Nat.le_of_ble_eq_true rfl) (Nat.le_of_ble_eq_true rfl) (Nat.le_of_ble_eq_true rfl)) (fun x13 h5 => ?_)
          refine g_iald (pc := 80) dX9_readsTrust_80 (fun x14 => ?_)
          refine g_iconst (pc := 81) dX9_readsTrust_81 ci_m1 ?_
          refine g_icmpeq (pc := 82) (tgt := 95) dX9_readsTrust_82 rfl ?_ ?_
          · refine g_aload_n (pc := 95) dX9_readsTrust_95 2 rfl ?_
            refine g_iconst (pc := 96) dX9_readsTrust_96 ci_0 ?_
            refine g_bipush (pc := 97) dX9_readsTrust_97 cb_9 ?_
            refine g_gS (fun hs => ?_)
            refine g_bRi (pc := 99) (c_V cl9 hs (p_X9_takesNumber hl x1 (0 : Int32) (9 : Int32) h5) y_X9_takesNumber tw735 dX9_readsTrust_99 rfl (st := []) rfl (Nat.le_of_ble_eq_true rfl) (Nat.le_of_ble_eq_true rfl) (Nat.le_of_ble_eq_true rfl)) (fun x15 h6 => ?_)
            refine g_ifne (pc := 102) (tgt := 107) dX9_readsTrust_102 rfl ?_ ?_
            · refine g_iconst (pc := 105) dX9_readsTrust_105 ci_0 ?_
              exact g_ret (pc := 106) rfl (isRet_z (Or.inl rfl)) dX9_readsTrust_106 rfl
            · refine g_aload_n (pc := 107) dX9_readsTrust_107 2 rfl ?_
              refine g_getr (pc := 108) cl9 (Nat.le_of_ble_eq_true rfl) fk45 (fun _ _ _ => rfl) dX9_readsTrust_108 (fun x16 => ?_)
              refine g_getr (pc := 111) cl8 (Nat.le_of_ble_eq_true rfl) fk251 (fun _ _ _ => rfl) dX9_readsTrust_111 (fun x17 => ?_)
              refine g_iload_n (pc := 114) dX9_readsTrust_114 1 rfl ?_
              refine g_iload_n (pc := 115) dX9_readsTrust_115 0 rfl ?_
              refine g_bRi (pc := 116) (c_SN (p_X11_pair hl x5 x7 h6) y_X11_pair tw805 dX9_readsTrust_116 rfl (st := [.ref (e_z E + x17)]) rfl (Nat.le_of_ble_eq_true rfl) (Nat.le_of_ble_eq_true rfl) (Nat.le_of_ble_eq_true rfl)) (fun x18 h7 => ?_)
              refine g_aload_n (pc := 119) dX9_readsTrust_119 2 rfl ?_
              refine g_geti (pc := 120) cl9 (Nat.le_of_ble_eq_true rfl) fk50 (fun _ _ _ => rfl) dX9_readsTrust_120 (fun x19 => ?_)
              refine g_iast (pc := 123) dX9_readsTrust_123 (fun h8 => ?_)
              refine g_aload_n (pc := 124) dX9_readsTrust_124 2 rfl ?_
              refine g_getr (pc := 125) cl9 (Nat.le_of_ble_eq_true rfl) fk45 (fun _ _ _ => rfl) dX9_readsTrust_125 (fun x20 => ?_)
              refine g_dup (pc := 128) rfl dX9_readsTrust_128 ?_
              refine g_geti (pc := 129) cl8 (Nat.le_of_ble_eq_true rfl) fk248 (fun _ _ _ => rfl) dX9_readsTrust_129 (fun x21 => ?_)
              refine g_iconst (pc := 132) dX9_readsTrust_132 ci_1 ?_
              refine g_iadd (pc := 133) dX9_readsTrust_133 ?_
              refine g_puti (pc := 134) cl8 (Nat.le_of_ble_eq_true rfl) (Or.inl ⟨rfl, fk248⟩) (fun _ _ _ => rfl) (fun _ => ⟨rfl, rfl⟩) dX9_readsTrust_134 (fun h9 => ?_)
              refine g_iconst (pc := 137) dX9_readsTrust_137 ci_1 ?_
              exact g_ret (pc := 138) rfl (isRet_z (Or.inr rfl)) dX9_readsTrust_138 rfl
          · refine g_aload_n (pc := 85) dX9_readsTrust_85 2 rfl ?_
            refine g_iconst (pc := 86) dX9_readsTrust_86 ci_3 ?_
            refine g_aload_n (pc := 87) dX9_readsTrust_87 2 rfl ?_
            refine g_geti (pc := 88) cl9 (Nat.le_of_ble_eq_true rfl) fk49 (fun _ _ _ => rfl) dX9_readsTrust_88 (fun x22 => ?_)
            refine g_gS (fun hs => ?_)
            refine g_bRi (pc := 91) (c_V cl9 hs (p_X9_failsAt hl x1 (3 : Int32) x22 h5) y_X9_failsAt tw731 dX9_readsTrust_91 rfl (st := []) rfl (Nat.le_of_ble_eq_true rfl) (Nat.le_of_ble_eq_true rfl) (Nat.le_of_ble_eq_true rfl)) (fun x23 h10 => ?_)
            refine g_zO (fun hz => ?_)
            exact g_ret (pc := 94) rfl (isRet_z hz) dX9_readsTrust_94 rfl
  · refine g_aload_n (pc := 12) dX9_readsTrust_12 0 rfl ?_
    refine g_iconst (pc := 13) dX9_readsTrust_13 ci_5 ?_
    refine g_gS (fun hs => ?_)
    refine g_bRi (pc := 14) (c_V cl9 hs (p_X9_fails hl x1 (5 : Int32) h0) y_X9_fails tw727 dX9_readsTrust_14 rfl (st := []) rfl (Nat.le_of_ble_eq_true rfl) (Nat.le_of_ble_eq_true rfl) (Nat.le_of_ble_eq_true rfl)) (fun x25 h11 => ?_)
    refine g_zO (fun hz => ?_)
    exact g_ret (pc := 17) rfl (isRet_z hz) dX9_readsTrust_17 rfl
theorem p_X9_readsTrust {l : Launch} {E : aE} (hl : l.stackTraces = false) (x1 : Nat) (h0 : aH) : MO (fun (v : Int32) => .inl (some (.int v))) l E yX9_readsTrust (.code yX9_readsTrust cX9_readsTrust 3 (some .boolean)) 4 86 [.ref (e_z E + x1)] h0 (m_X9_readsTrust x1 h0) := g_met hl (by decide +kernel) (Nat.le_of_ble_eq_true rfl) (b_X9_readsTrust hl _ _ x1 h0)
