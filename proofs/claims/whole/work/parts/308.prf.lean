/-! proofs of methods -/
theorem dX12_find_0 : decode cX12_find 0 = .ok (.aload_n 0, 1) := by decide +kernel
theorem dX12_find_1 : decode cX12_find 1 = .ok (.iload_n 1, 1) := by decide +kernel
theorem dX12_find_2 : decode cX12_find 2 = .ok (.i2l, 1) := by decide +kernel
theorem dX12_find_3 : decode cX12_find 3 = .ok (.lconst 0, 1) := by decide +kernel
theorem dX12_find_4 : decode cX12_find 4 = .ok (.ldc2_w 343, 3) := by decide +kernel
theorem dX12_find_7 : decode cX12_find 7 = .ok (.invokestatic 176, 3) := by decide +kernel
theorem dX12_find_10 : decode cX12_find 10 = .ok (.ifCond .eq 7, 3) := by decide +kernel
theorem dX12_find_13 : decode cX12_find 13 = .ok (.iconst 0, 1) := by decide +kernel
theorem dX12_find_14 : decode cX12_find 14 = .ok (.goto 4, 3) := by decide +kernel
theorem dX12_find_17 : decode cX12_find 17 = .ok (.iconst 1, 1) := by decide +kernel
theorem dX12_find_18 : decode cX12_find 18 = .ok (.putfield 166, 3) := by decide +kernel
theorem dX12_find_21 : decode cX12_find 21 = .ok (.lconst 0, 1) := by decide +kernel
theorem dX12_find_22 : decode cX12_find 22 = .ok (.lstore_n 2, 1) := by decide +kernel
theorem dX12_find_23 : decode cX12_find 23 = .ok (.iconst 0, 1) := by decide +kernel
theorem dX12_find_24 : decode cX12_find 24 = .ok (.istore 4, 2) := by decide +kernel
theorem dX12_find_26 : decode cX12_find 26 = .ok (.iload 4, 2) := by decide +kernel
theorem dX12_find_28 : decode cX12_find 28 = .ok (.aload_n 0, 1) := by decide +kernel
theorem dX12_find_29 : decode cX12_find 29 = .ok (.getfield 169, 3) := by decide +kernel
theorem dX12_find_32 : decode cX12_find 32 = .ok (.if_icmp .ge 58, 3) := by decide +kernel
theorem dX12_find_35 : decode cX12_find 35 = .ok (.aload_n 0, 1) := by decide +kernel
theorem dX12_find_36 : decode cX12_find 36 = .ok (.iload 4, 2) := by decide +kernel
theorem dX12_find_38 : decode cX12_find 38 = .ok (.invokevirtual 204, 3) := by decide +kernel
theorem dX12_find_41 : decode cX12_find 41 = .ok (.ifCond .eq 39, 3) := by decide +kernel
theorem dX12_find_44 : decode cX12_find 44 = .ok (.iload 4, 2) := by decide +kernel
theorem dX12_find_46 : decode cX12_find 46 = .ok (.bipush 8, 2) := by decide +kernel
theorem dX12_find_48 : decode cX12_find 48 = .ok (.if_icmp .ge 32, 3) := by decide +kernel
theorem dX12_find_51 : decode cX12_find 51 = .ok (.lload_n 2, 1) := by decide +kernel
theorem dX12_find_52 : decode cX12_find 52 = .ok (.lconst 0, 1) := by decide +kernel
theorem dX12_find_53 : decode cX12_find 53 = .ok (.lcmp, 1) := by decide +kernel
theorem dX12_find_54 : decode cX12_find 54 = .ok (.ifCond .lt 26, 3) := by decide +kernel
theorem dX12_find_57 : decode cX12_find 57 = .ok (.ldc2_w 208, 3) := by decide +kernel
theorem dX12_find_60 : decode cX12_find 60 = .ok (.lload_n 2, 1) := by decide +kernel
theorem dX12_find_61 : decode cX12_find 61 = .ok (.lmul, 1) := by decide +kernel
theorem dX12_find_62 : decode cX12_find 62 = .ok (.aload_n 0, 1) := by decide +kernel
theorem dX12_find_63 : decode cX12_find 63 = .ok (.getfield 78, 3) := by decide +kernel
theorem dX12_find_66 : decode cX12_find 66 = .ok (.iload 4, 2) := by decide +kernel
theorem dX12_find_68 : decode cX12_find 68 = .ok (.iaload, 1) := by decide +kernel
theorem dX12_find_69 : decode cX12_find 69 = .ok (.i2l, 1) := by decide +kernel
theorem dX12_find_70 : decode cX12_find 70 = .ok (.ladd, 1) := by decide +kernel
theorem dX12_find_71 : decode cX12_find 71 = .ok (.ldc2_w 190, 3) := by decide +kernel
theorem dX12_find_74 : decode cX12_find 74 = .ok (.lsub, 1) := by decide +kernel
theorem dX12_find_75 : decode cX12_find 75 = .ok (.lconst 1, 1) := by decide +kernel
theorem dX12_find_76 : decode cX12_find 76 = .ok (.ladd, 1) := by decide +kernel
theorem dX12_find_77 : decode cX12_find 77 = .ok (.goto 6, 3) := by decide +kernel
theorem dX12_find_80 : decode cX12_find 80 = .ok (.ldc2_w 210, 3) := by decide +kernel
theorem dX12_find_83 : decode cX12_find 83 = .ok (.lstore_n 2, 1) := by decide +kernel
theorem dX12_find_84 : decode cX12_find 84 = .ok (.iinc 4 1, 3) := by decide +kernel
theorem dX12_find_87 : decode cX12_find 87 = .ok (.goto (-61), 3) := by decide +kernel
theorem dX12_find_90 : decode cX12_find 90 = .ok (.aload_n 0, 1) := by decide +kernel
theorem dX12_find_91 : decode cX12_find 91 = .ok (.iconst 0, 1) := by decide +kernel
theorem dX12_find_92 : decode cX12_find 92 = .ok (.putfield 169, 3) := by decide +kernel
theorem dX12_find_95 : decode cX12_find 95 = .ok (.aload_n 0, 1) := by decide +kernel
theorem dX12_find_96 : decode cX12_find 96 = .ok (.getfield 166, 3) := by decide +kernel
theorem dX12_find_99 : decode cX12_find 99 = .ok (.ifCond .le 5, 3) := by decide +kernel
theorem dX12_find_102 : decode cX12_find 102 = .ok (.iconst 0, 1) := by decide +kernel
theorem dX12_find_103 : decode cX12_find 103 = .ok (.ireturn, 1) := by decide +kernel
theorem dX12_find_104 : decode cX12_find 104 = .ok (.iload_n 1, 1) := by decide +kernel
theorem dX12_find_105 : decode cX12_find 105 = .ok (.ifCond .ne 7, 3) := by decide +kernel
theorem dX12_find_108 : decode cX12_find 108 = .ok (.iconst 0, 1) := by decide +kernel
theorem dX12_find_109 : decode cX12_find 109 = .ok (.goto 25, 3) := by decide +kernel
theorem dX12_find_112 : decode cX12_find 112 = .ok (.iload_n 1, 1) := by decide +kernel
theorem dX12_find_113 : decode cX12_find 113 = .ok (.iconst 1, 1) := by decide +kernel
theorem dX12_find_114 : decode cX12_find 114 = .ok (.if_icmp .ne 8, 3) := by decide +kernel
theorem dX12_find_117 : decode cX12_find 117 = .ok (.bipush 12, 2) := by decide +kernel
theorem dX12_find_119 : decode cX12_find 119 = .ok (.goto 15, 3) := by decide +kernel
theorem dX12_find_122 : decode cX12_find 122 = .ok (.iload_n 1, 1) := by decide +kernel
theorem dX12_find_123 : decode cX12_find 123 = .ok (.iconst 2, 1) := by decide +kernel
theorem dX12_find_124 : decode cX12_find 124 = .ok (.if_icmp .ne 8, 3) := by decide +kernel
theorem dX12_find_127 : decode cX12_find 127 = .ok (.bipush 18, 2) := by decide +kernel
theorem dX12_find_129 : decode cX12_find 129 = .ok (.goto 5, 3) := by decide +kernel
theorem dX12_find_132 : decode cX12_find 132 = .ok (.bipush 23, 2) := by decide +kernel
theorem dX12_find_134 : decode cX12_find 134 = .ok (.istore 4, 2) := by decide +kernel
theorem dX12_find_136 : decode cX12_find 136 = .ok (.iload_n 1, 1) := by decide +kernel
theorem dX12_find_137 : decode cX12_find 137 = .ok (.ifCond .ne 10, 3) := by decide +kernel
theorem dX12_find_140 : decode cX12_find 140 = .ok (.aload_n 0, 1) := by decide +kernel
theorem dX12_find_141 : decode cX12_find 141 = .ok (.getfield 325, 3) := by decide +kernel
theorem dX12_find_144 : decode cX12_find 144 = .ok (.goto 31, 3) := by decide +kernel
theorem dX12_find_147 : decode cX12_find 147 = .ok (.iload_n 1, 1) := by decide +kernel
theorem dX12_find_148 : decode cX12_find 148 = .ok (.iconst 1, 1) := by decide +kernel
theorem dX12_find_149 : decode cX12_find 149 = .ok (.if_icmp .ne 10, 3) := by decide +kernel
theorem dX12_find_152 : decode cX12_find 152 = .ok (.aload_n 0, 1) := by decide +kernel
theorem dX12_find_153 : decode cX12_find 153 = .ok (.getfield 328, 3) := by decide +kernel
theorem dX12_find_156 : decode cX12_find 156 = .ok (.goto 19, 3) := by decide +kernel
theorem dX12_find_159 : decode cX12_find 159 = .ok (.iload_n 1, 1) := by decide +kernel
theorem dX12_find_160 : decode cX12_find 160 = .ok (.iconst 2, 1) := by decide +kernel
theorem dX12_find_161 : decode cX12_find 161 = .ok (.if_icmp .ne 10, 3) := by decide +kernel
theorem dX12_find_164 : decode cX12_find 164 = .ok (.aload_n 0, 1) := by decide +kernel
theorem dX12_find_165 : decode cX12_find 165 = .ok (.getfield 331, 3) := by decide +kernel
theorem dX12_find_168 : decode cX12_find 168 = .ok (.goto 7, 3) := by decide +kernel
theorem dX12_find_171 : decode cX12_find 171 = .ok (.aload_n 0, 1) := by decide +kernel
theorem dX12_find_172 : decode cX12_find 172 = .ok (.getfield 334, 3) := by decide +kernel
theorem dX12_find_175 : decode cX12_find 175 = .ok (.istore 5, 2) := by decide +kernel
theorem dX12_find_177 : decode cX12_find 177 = .ok (.iconst 0, 1) := by decide +kernel
theorem dX12_find_178 : decode cX12_find 178 = .ok (.istore 6, 2) := by decide +kernel
theorem dX12_find_180 : decode cX12_find 180 = .ok (.iload 6, 2) := by decide +kernel
theorem dX12_find_182 : decode cX12_find 182 = .ok (.iload 5, 2) := by decide +kernel
theorem dX12_find_184 : decode cX12_find 184 = .ok (.if_icmp .ge 27, 3) := by decide +kernel
theorem dX12_find_187 : decode cX12_find 187 = .ok (.aload_n 0, 1) := by decide +kernel
theorem dX12_find_188 : decode cX12_find 188 = .ok (.getfield 29, 3) := by decide +kernel
theorem dX12_find_191 : decode cX12_find 191 = .ok (.iload 4, 2) := by decide +kernel
theorem dX12_find_193 : decode cX12_find 193 = .ok (.iload 6, 2) := by decide +kernel
theorem dX12_find_195 : decode cX12_find 195 = .ok (.iadd, 1) := by decide +kernel
theorem dX12_find_196 : decode cX12_find 196 = .ok (.laload, 1) := by decide +kernel
theorem dX12_find_197 : decode cX12_find 197 = .ok (.lload_n 2, 1) := by decide +kernel
theorem dX12_find_198 : decode cX12_find 198 = .ok (.lcmp, 1) := by decide +kernel
theorem dX12_find_199 : decode cX12_find 199 = .ok (.ifCond .ne 6, 3) := by decide +kernel
theorem dX12_find_202 : decode cX12_find 202 = .ok (.iload 6, 2) := by decide +kernel
theorem dX12_find_204 : decode cX12_find 204 = .ok (.ireturn, 1) := by decide +kernel
theorem dX12_find_205 : decode cX12_find 205 = .ok (.iinc 6 1, 3) := by decide +kernel
theorem dX12_find_208 : decode cX12_find 208 = .ok (.goto (-28), 3) := by decide +kernel
theorem dX12_find_211 : decode cX12_find 211 = .ok (.aload_n 0, 1) := by decide +kernel
theorem dX12_find_212 : decode cX12_find 212 = .ok (.iconst 2, 1) := by decide +kernel
theorem dX12_find_213 : decode cX12_find 213 = .ok (.putfield 166, 3) := by decide +kernel
theorem dX12_find_216 : decode cX12_find 216 = .ok (.iconst 0, 1) := by decide +kernel
theorem dX12_find_217 : decode cX12_find 217 = .ok (.ireturn, 1) := by decide +kernel
abbrev M_X12_find : aM := (yX12_find.cls, cX12_find, 7, (some .int), [], yX12_find.name == "<init>")
abbrev J_X12_find (l : Launch) (E : aE) (n0 m0 : Nat) := GG (fun (v : Int32) => .inl (some (.int v))) l E M_X12_find 2 46 n0 m0
theorem b_X12_find {l : Launch} {E : aE} (hl : l.stackTraces = false) (n0 m0 : Nat) (x1 : Nat) (x2 : Int32) (h0 : aH) : J_X12_find l E n0 m0 0 [(0, .ref (e_z E + x1)), (1, .int x2)] [] h0 (m_X12_find x1 x2 h0) := by
  unfold m_X12_find
  refine g_aload_n (pc := 0) dX12_find_0 0 rfl ?_
  refine g_iload_n (pc := 1) dX12_find_1 1 rfl ?_
  refine g_i2l (pc := 2) dX12_find_2 ?_
  refine g_lconst (pc := 3) dX12_find_3 cl_0 ?_
  refine g_ldc2 (pc := 4) tw1905 dX12_find_4 ?_
  refine g_bRi (pc := 7) (c_S (p_X12_in hl (x2.toInt64) (0 : Int64) (3 : Int64) h0) y_X12_in tw1782 dX12_find_7 rfl (st := [.ref (e_z E + x1)]) rfl (Nat.le_of_ble_eq_true rfl) (Nat.le_of_ble_eq_true rfl) (Nat.le_of_ble_eq_true rfl)) (fun x3 h1 => ?_)
  refine g_join (fun k => ∀ (x4 : Int32) (h2 : aH), J_X12_find l E n0 m0 18 [(0, .ref (e_z E + x1)), (1, .int x2)] [.int x4, .ref (e_z E + x1)] h2 (k x4 h2)) (fun x4 h2 => ?_) (fun k18 hk18 => ?_)
  · refine g_puti (pc := 18) cl12 (Nat.le_of_ble_eq_true rfl) (Or.inl ⟨rfl, fk1551⟩) (fun _ _ _ => rfl) (fun _ => ⟨rfl, rfl⟩) dX12_find_18 (fun h3 => ?_)
    refine g_lconst (pc := 21) dX12_find_21 cl_0 ?_
    refine g_lstore_n (pc := 22) (lv' := [(2, .long (0 : Int64)), (0, .ref (e_z E + x1)), (1, .int x2)]) dX12_find_22 (Nat.le_of_ble_eq_true rfl) rfl ?_
    refine g_iconst (pc := 23) dX12_find_23 ci_0 ?_
    refine g_istore (pc := 24) (lv' := [(4, .int (0 : Int32)), (2, .long (0 : Int64)), (0, .ref (e_z E + x1)), (1, .int x2)]) dX12_find_24 (Nat.le_of_ble_eq_true rfl) rfl ?_
    refine g_join (fun k => ∀ (x5 : Int64) (h4 : aH), J_X12_find l E n0 m0 90 [(0, .ref (e_z E + x1)), (1, .int x2), (2, .long x5)] [] h4 (k x5 h4)) (fun x5 h4 => ?_) (fun k90 hk90 => ?_)
    · refine g_aload_n (pc := 90) dX12_find_90 0 rfl ?_
      refine g_iconst (pc := 91) dX12_find_91 ci_0 ?_
      refine g_puti (pc := 92) cl12 (Nat.le_of_ble_eq_true rfl) (Or.inl ⟨rfl, fk1580⟩) (fun _ _ _ => rfl) (fun _ => ⟨rfl, rfl⟩) dX12_find_92 (fun h5 => ?_)
      refine g_aload_n (pc := 95) dX12_find_95 0 rfl ?_
      refine g_geti (pc := 96) cl12 (Nat.le_of_ble_eq_true rfl) fk1551 (fun _ _ _ => rfl) dX12_find_96 (fun x6 => ?_)
      refine g_ifle (pc := 99) (tgt := 104) dX12_find_99 rfl ?_ ?_
      · refine g_iload_n (pc := 104) dX12_find_104 1 rfl ?_
        refine g_join (fun k => ∀ (x7 : Int32) (h6 : aH), J_X12_find l E n0 m0 134 [(0, .ref (e_z E + x1)), (1, .int x2), (2, .long x5)] [.int x7] h6 (k x7 h6)) (fun x7 h6 => ?_) (fun k134 hk134 => ?_)
        · refine g_istore (pc := 134) (lv' := [(4, .int x7), (0, .ref (e_z E + x1)), (1, .int x2), (2, .long x5)]) dX12_find_134 (Nat.le_of_ble_eq_true rfl) rfl ?_
          refine g_iload_n (pc := 136) dX12_find_136 2 rfl ?_
          refine g_join (fun k => ∀ (x8 : Int32) (h7 : aH), J_X12_find l E n0 m0 175 [(0, .ref (e_z E + x1)), (2, .long x5), (4, .int x7)] [.int x8] h7 (k x8 h7)) (fun x8 h7 => ?_) (fun k175 hk175 => ?_)
          · refine g_istore (pc := 175) (lv' := [(5, .int x8), (0, .ref (e_z E + x1)), (2, .long x5), (4, .int x7)]) dX12_find_175 (Nat.le_of_ble_eq_true rfl) rfl ?_
            refine g_iconst (pc := 177) dX12_find_177 ci_0 ?_
            refine g_istore (pc := 178) (lv' := [(6, .int (0 : Int32)), (5, .int x8), (0, .ref (e_z E + x1)), (2, .long x5), (4, .int x7)]) dX12_find_178 (Nat.le_of_ble_eq_true rfl) rfl ?_
            refine g_join (fun k => ∀ (h8 : aH), J_X12_find l E n0 m0 211 [(0, .ref (e_z E + x1))] [] h8 (k h8)) (fun h8 => ?_) (fun k211 hk211 => ?_)
            · refine g_aload_n (pc := 211) dX12_find_211 0 rfl ?_
              refine g_iconst (pc := 212) dX12_find_212 ci_2 ?_
              refine g_puti (pc := 213) cl12 (Nat.le_of_ble_eq_true rfl) (Or.inl ⟨rfl, fk1551⟩) (fun _ _ _ => rfl) (fun _ => ⟨rfl, rfl⟩) dX12_find_213 (fun h9 => ?_)
              refine g_iconst (pc := 216) dX12_find_216 ci_0 ?_
              exact g_ret (pc := 217) rfl (isRet_i _) dX12_find_217 rfl
            refine g_join (fun k => ∀ (x9 : Int32) (h10 : aH), J_X12_find l E n0 m0 202 [(6, .int x9)] [] h10 (k x9 h10)) (fun x9 h10 => ?_) (fun k202 hk202 => ?_)
            · refine g_iload (pc := 202) dX12_find_202 0 rfl ?_
              exact g_ret (pc := 204) rfl (isRet_i _) dX12_find_204 rfl
            refine g_lv [2, 3, 4, 1, 0] rfl ?_
            refine g_loop1 (F := (m_X12_find_L180 x1 x5 x7 x8 k211 k202)) (fun x10 => [(0, .ref (e_z E + x1)), (2, .long x5), (4, .int x7), (5, .int x8), (6, .int x10)]) (fun r180 hr180 x10 h11 => ?_) _ _ _
            unfold m_X12_find_L180
            refine g_iload (pc := 180) dX12_find_180 4 rfl ?_
            refine g_iload (pc := 182) dX12_find_182 3 rfl ?_
            refine g_icmpge (pc := 184) (tgt := 211) dX12_find_184 rfl ?_ ?_
            · refine g_aload_n (pc := 187) dX12_find_187 0 rfl ?_
              refine g_getr (pc := 188) cl12 (Nat.le_of_ble_eq_true rfl) fk1563 (fun _ _ _ => rfl) dX12_find_188 (fun x11 => ?_)
              refine g_iload (pc := 191) dX12_find_191 2 rfl ?_
              refine g_iload (pc := 193) dX12_find_193 4 rfl ?_
              refine g_iadd (pc := 195) dX12_find_195 ?_
              refine g_lald (pc := 196) dX12_find_196 (fun x12 => ?_)
              refine g_lload_n (pc := 197) dX12_find_197 1 rfl ?_
              refine g_lcmp (pc := 198) dX12_find_198 ?_
              refine g_ifne (pc := 199) (tgt := 205) dX12_find_199 rfl ?_ ?_
              · refine g_lv [4] rfl ?_
                exact hk202 x10 h11
              · refine g_iincN (pc := 205) dX12_find_205 4 rfl ci_1 (Nat.le_of_ble_eq_true rfl) (fun x13 => ?_)
                refine g_lvr (lv' := [(6, .int x13), (0, .ref (e_z E + x1)), (2, .long x5), (4, .int x7), (5, .int x8)]) rfl ?_
                refine g_goto (pc := 208) (tgt := 180) dX12_find_208 rfl ?_
                refine g_lv [1, 2, 3, 4, 0] rfl ?_
                exact hr180 x13 h11
            · refine g_lv [0] rfl ?_
              exact hk211 h11
          refine g_ifne (pc := 137) (tgt := 147) dX12_find_137 rfl ?_ ?_
          · refine g_aload_n (pc := 140) dX12_find_140 1 rfl ?_
            refine g_geti (pc := 141) cl12 (Nat.le_of_ble_eq_true rfl) fk1559 (fun _ _ _ => rfl) dX12_find_141 (fun x14 => ?_)
            refine g_goto (pc := 144) (tgt := 175) dX12_find_144 rfl ?_
            refine g_lv [1, 3, 0] rfl ?_
            exact hk175 x14 h6
          · refine g_iload_n (pc := 147) dX12_find_147 2 rfl ?_
            refine g_iconst (pc := 148) dX12_find_148 ci_1 ?_
            refine g_icmpne (pc := 149) (tgt := 159) dX12_find_149 rfl ?_ ?_
            · refine g_aload_n (pc := 152) dX12_find_152 1 rfl ?_
              refine g_geti (pc := 153) cl12 (Nat.le_of_ble_eq_true rfl) fk1560 (fun _ _ _ => rfl) dX12_find_153 (fun x15 => ?_)
              refine g_goto (pc := 156) (tgt := 175) dX12_find_156 rfl ?_
              refine g_lv [1, 3, 0] rfl ?_
              exact hk175 x15 h6
            · refine g_iload_n (pc := 159) dX12_find_159 2 rfl ?_
              refine g_iconst (pc := 160) dX12_find_160 ci_2 ?_
              refine g_icmpne (pc := 161) (tgt := 171) dX12_find_161 rfl ?_ ?_
              · refine g_aload_n (pc := 164) dX12_find_164 1 rfl ?_
                refine g_geti (pc := 165) cl12 (Nat.le_of_ble_eq_true rfl) fk1561 (fun _ _ _ => rfl) dX12_find_165 (fun x16 => ?_)
                refine g_goto (pc := 168) (tgt := 175) dX12_find_168 rfl ?_
                refine g_lv [1, 3, 0] rfl ?_
                exact hk175 x16 h6
              · refine g_aload_n (pc := 171) dX12_find_171 1 rfl ?_
                refine g_geti (pc := 172) cl12 (Nat.le_of_ble_eq_true rfl) fk1562 (fun _ _ _ => rfl) dX12_find_172 (fun x17 => ?_)
                refine g_lv [1, 3, 0] rfl ?_
                exact hk175 x17 h6
        refine g_ifne (pc := 105) (tgt := 112) dX12_find_105 rfl ?_ ?_
        · refine g_iconst (pc := 108) dX12_find_108 ci_0 ?_
          refine g_goto (pc := 109) (tgt := 134) dX12_find_109 rfl ?_
          exact hk134 (0 : Int32) h5
        · refine g_iload_n (pc := 112) dX12_find_112 1 rfl ?_
          refine g_iconst (pc := 113) dX12_find_113 ci_1 ?_
          refine g_icmpne (pc := 114) (tgt := 122) dX12_find_114 rfl ?_ ?_
          · refine g_bipush (pc := 117) dX12_find_117 cb_12 ?_
            refine g_goto (pc := 119) (tgt := 134) dX12_find_119 rfl ?_
            exact hk134 (12 : Int32) h5
          · refine g_iload_n (pc := 122) dX12_find_122 1 rfl ?_
            refine g_iconst (pc := 123) dX12_find_123 ci_2 ?_
            refine g_icmpne (pc := 124) (tgt := 132) dX12_find_124 rfl ?_ ?_
            · refine g_bipush (pc := 127) dX12_find_127 cb_18 ?_
              refine g_goto (pc := 129) (tgt := 134) dX12_find_129 rfl ?_
              exact hk134 (18 : Int32) h5
            · refine g_bipush (pc := 132) dX12_find_132 cb_23 ?_
              exact hk134 (23 : Int32) h5
      · refine g_iconst (pc := 102) dX12_find_102 ci_0 ?_
        exact g_ret (pc := 103) rfl (isRet_i _) dX12_find_103 rfl
    refine g_lv [2, 3, 1, 0] rfl ?_
    refine g_loop2 (F := (m_X12_find_L26 x1 k90)) (fun x18 x19 => [(0, .ref (e_z E + x1)), (1, .int x2), (2, .long x18), (4, .int x19)]) (fun r26 hr26 x18 x19 h12 => ?_) _ _ _ _
    unfold m_X12_find_L26
    refine g_iload (pc := 26) dX12_find_26 3 rfl ?_
    refine g_aload_n (pc := 28) dX12_find_28 0 rfl ?_
    refine g_geti (pc := 29) cl12 (Nat.le_of_ble_eq_true rfl) fk1580 (fun _ _ _ => rfl) dX12_find_29 (fun x20 => ?_)
    refine g_icmpge (pc := 32) (tgt := 90) dX12_find_32 rfl ?_ ?_
    · refine g_aload_n (pc := 35) dX12_find_35 0 rfl ?_
      refine g_iload (pc := 36) dX12_find_36 3 rfl ?_
      refine g_gS (fun hs => ?_)
      refine g_bRi (pc := 38) (c_V cl12 hs (p_X12_isLetter hl x1 x19 h12) y_X12_isLetter tw1806 dX12_find_38 rfl (st := []) rfl (Nat.le_of_ble_eq_true rfl) (Nat.le_of_ble_eq_true rfl) (Nat.le_of_ble_eq_true rfl)) (fun x21 h13 => ?_)
      refine g_join (fun k => ∀ (x22 : Int64) (h14 : aH), J_X12_find l E n0 m0 83 [(0, .ref (e_z E + x1)), (1, .int x2), (4, .int x19)] [.long x22] h14 (k x22 h14)) (fun x22 h14 => ?_) (fun k83 hk83 => ?_)
      · refine g_lstore_n (pc := 83) (lv' := [(2, .long x22), (0, .ref (e_z E + x1)), (1, .int x2), (4, .int x19)]) dX12_find_83 (Nat.le_of_ble_eq_true rfl) rfl ?_
        refine g_iincN (pc := 84) dX12_find_84 3 rfl ci_1 (Nat.le_of_ble_eq_true rfl) (fun x23 => ?_)
        refine g_lvr (lv' := [(4, .int x23), (2, .long x22), (0, .ref (e_z E + x1)), (1, .int x2)]) rfl ?_
        refine g_goto (pc := 87) (tgt := 26) dX12_find_87 rfl ?_
        refine g_lv [2, 3, 1, 0] rfl ?_
        exact hr26 x22 x23 h14
      refine g_join (fun k => ∀ (h15 : aH), J_X12_find l E n0 m0 80 [(0, .ref (e_z E + x1)), (1, .int x2), (4, .int x19)] [] h15 (k h15)) (fun h15 => ?_) (fun k80 hk80 => ?_)
      · refine g_ldc2 (pc := 80) tw1813 dX12_find_80 ?_
        exact hk83 (-1 : Int64) h15
      refine g_ifeq (pc := 41) (tgt := 80) dX12_find_41 rfl ?_ ?_
      · refine g_lv [0, 1, 3] rfl ?_
        exact hk80 h13
      · refine g_iload (pc := 44) dX12_find_44 3 rfl ?_
        refine g_bipush (pc := 46) dX12_find_46 cb_8 ?_
        refine g_icmpge (pc := 48) (tgt := 80) dX12_find_48 rfl ?_ ?_
        · refine g_lload_n (pc := 51) dX12_find_51 2 rfl ?_
          refine g_lconst (pc := 52) dX12_find_52 cl_0 ?_
          refine g_lcmp (pc := 53) dX12_find_53 ?_
          refine g_iflt (pc := 54) (tgt := 80) dX12_find_54 rfl ?_ ?_
          · refine g_lv [0, 1, 3] rfl ?_
            exact hk80 h13
          · refine g_ldc2 (pc := 57) tw1812 dX12_find_57 ?_
            refine g_lload_n (pc := 60) dX12_find_60 2 rfl ?_
            refine g_lmul (pc := 61) dX12_find_61 ?_
            refine g_aload_n (pc := 62) dX12_find_62 0 rfl ?_
            refine g_getr (pc := 63) cl12 (Nat.le_of_ble_eq_true rfl) fk1579 (fun _ _ _ => rfl) dX12_find_63 (fun x24 => ?_)
            refine g_iload (pc := 66) dX12_find_66 3 rfl ?_
            refine g_iald (pc := 68) dX12_find_68 (fun x25 => ?_)
            refine g_i2l (pc := 69) dX12_find_69 ?_
            refine g_ladd (pc := 70) dX12_find_70 ?_
            refine g_ldc2 (pc := 71) tw1810 dX12_find_71 ?_
            refine g_lsub (pc := 74) dX12_find_74 ?_
            refine g_lconst (pc := 75) dX12_find_75 cl_1 ?_
            refine g_ladd (pc := 76) dX12_find_76 ?_
            refine g_goto (pc := 77) (tgt := 83) dX12_find_77 rfl ?_
            refine g_lv [0, 1, 3] rfl ?_
            exact hk83 (((((27 : Int64) * x18) + (x25.toInt64)) - (97 : Int64)) + (1 : Int64)) h13
        · refine g_lv [0, 1, 3] rfl ?_
          exact hk80 h13
    · refine g_lv [0, 1, 2] rfl ?_
      exact hk90 x18 h12
  refine g_ifeq (pc := 10) (tgt := 17) dX12_find_10 rfl ?_ ?_
  · refine g_iconst (pc := 17) dX12_find_17 ci_1 ?_
    exact hk18 (1 : Int32) h1
  · refine g_iconst (pc := 13) dX12_find_13 ci_0 ?_
    refine g_goto (pc := 14) (tgt := 18) dX12_find_14 rfl ?_
    exact hk18 (0 : Int32) h1
theorem p_X12_find {l : Launch} {E : aE} (hl : l.stackTraces = false) (x1 : Nat) (x2 : Int32) (h0 : aH) : MO (fun (v : Int32) => .inl (some (.int v))) l E yX12_find (.code yX12_find cX12_find 7 (some .int)) 2 46 [.ref (e_z E + x1), .int x2] h0 (m_X12_find x1 x2 h0) := g_met hl (by decide +kernel) (Nat.le_of_ble_eq_true rfl) (b_X12_find hl _ _ x1 x2 h0)
theorem dX12_count_0 : decode cX12_count 0 = .ok (.aload_n 0, 1) := by decide +kernel
theorem dX12_count_1 : decode cX12_count 1 = .ok (.iload_n 1, 1) := by decide +kernel
theorem dX12_count_2 : decode cX12_count 2 = .ok (.i2l, 1) := by decide +kernel
theorem dX12_count_3 : decode cX12_count 3 = .ok (.lconst 0, 1) := by decide +kernel
theorem dX12_count_4 : decode cX12_count 4 = .ok (.ldc2_w 345, 3) := by decide +kernel
theorem dX12_count_7 : decode cX12_count 7 = .ok (.invokestatic 176, 3) := by decide +kernel
theorem dX12_count_10 : decode cX12_count 10 = .ok (.ifCond .eq 7, 3) := by decide +kernel
theorem dX12_count_13 : decode cX12_count 13 = .ok (.iconst 0, 1) := by decide +kernel
theorem dX12_count_14 : decode cX12_count 14 = .ok (.goto 4, 3) := by decide +kernel
theorem dX12_count_17 : decode cX12_count 17 = .ok (.iconst 1, 1) := by decide +kernel
theorem dX12_count_18 : decode cX12_count 18 = .ok (.putfield 166, 3) := by decide +kernel
theorem dX12_count_21 : decode cX12_count 21 = .ok (.aload_n 0, 1) := by decide +kernel
theorem dX12_count_22 : decode cX12_count 22 = .ok (.getfield 166, 3) := by decide +kernel
theorem dX12_count_25 : decode cX12_count 25 = .ok (.ifCond .le 5, 3) := by decide +kernel
theorem dX12_count_28 : decode cX12_count 28 = .ok (.iconst 0, 1) := by decide +kernel
theorem dX12_count_29 : decode cX12_count 29 = .ok (.ireturn, 1) := by decide +kernel
theorem dX12_count_30 : decode cX12_count 30 = .ok (.iload_n 1, 1) := by decide +kernel
theorem dX12_count_31 : decode cX12_count 31 = .ok (.ifCond .ne 10, 3) := by decide +kernel
theorem dX12_count_34 : decode cX12_count 34 = .ok (.aload_n 0, 1) := by decide +kernel
theorem dX12_count_35 : decode cX12_count 35 = .ok (.getfield 325, 3) := by decide +kernel
theorem dX12_count_38 : decode cX12_count 38 = .ok (.goto 45, 3) := by decide +kernel
theorem dX12_count_41 : decode cX12_count 41 = .ok (.iload_n 1, 1) := by decide +kernel
theorem dX12_count_42 : decode cX12_count 42 = .ok (.iconst 1, 1) := by decide +kernel
theorem dX12_count_43 : decode cX12_count 43 = .ok (.if_icmp .ne 10, 3) := by decide +kernel
theorem dX12_count_46 : decode cX12_count 46 = .ok (.aload_n 0, 1) := by decide +kernel
theorem dX12_count_47 : decode cX12_count 47 = .ok (.getfield 328, 3) := by decide +kernel
theorem dX12_count_50 : decode cX12_count 50 = .ok (.goto 33, 3) := by decide +kernel
theorem dX12_count_53 : decode cX12_count 53 = .ok (.iload_n 1, 1) := by decide +kernel
theorem dX12_count_54 : decode cX12_count 54 = .ok (.iconst 2, 1) := by decide +kernel
theorem dX12_count_55 : decode cX12_count 55 = .ok (.if_icmp .ne 10, 3) := by decide +kernel
theorem dX12_count_58 : decode cX12_count 58 = .ok (.aload_n 0, 1) := by decide +kernel
theorem dX12_count_59 : decode cX12_count 59 = .ok (.getfield 331, 3) := by decide +kernel
theorem dX12_count_62 : decode cX12_count 62 = .ok (.goto 21, 3) := by decide +kernel
theorem dX12_count_65 : decode cX12_count 65 = .ok (.iload_n 1, 1) := by decide +kernel
theorem dX12_count_66 : decode cX12_count 66 = .ok (.iconst 3, 1) := by decide +kernel
theorem dX12_count_67 : decode cX12_count 67 = .ok (.if_icmp .ne 10, 3) := by decide +kernel
theorem dX12_count_70 : decode cX12_count 70 = .ok (.aload_n 0, 1) := by decide +kernel
theorem dX12_count_71 : decode cX12_count 71 = .ok (.getfield 334, 3) := by decide +kernel
theorem dX12_count_74 : decode cX12_count 74 = .ok (.goto 9, 3) := by decide +kernel
theorem dX12_count_77 : decode cX12_count 77 = .ok (.aload_n 0, 1) := by decide +kernel
theorem dX12_count_78 : decode cX12_count 78 = .ok (.getfield 7, 3) := by decide +kernel
theorem dX12_count_81 : decode cX12_count 81 = .ok (.iconst 1, 1) := by decide +kernel
theorem dX12_count_82 : decode cX12_count 82 = .ok (.iaload, 1) := by decide +kernel
theorem dX12_count_83 : decode cX12_count 83 = .ok (.ireturn, 1) := by decide +kernel
abbrev M_X12_count : aM := (yX12_count.cls, cX12_count, 2, (some .int), [], yX12_count.name == "<init>")
abbrev J_X12_count (l : Launch) (E : aE) (n0 m0 : Nat) := GG (fun (v : Int32) => .inl (some (.int v))) l E M_X12_count 1 25 n0 m0
theorem b_X12_count {l : Launch} {E : aE} (hl : l.stackTraces = false) (n0 m0 : Nat) (x1 : Nat) (x2 : Int32) (h0 : aH) : J_X12_count l E n0 m0 0 [(0, .ref (e_z E + x1)), (1, .int x2)] [] h0 (m_X12_count x1 x2 h0) := by
  unfold m_X12_count
  refine g_aload_n (pc := 0) dX12_count_0 0 rfl ?_
  refine g_iload_n (pc := 1) dX12_count_1 1 rfl ?_
  refine g_i2l (pc := 2) dX12_count_2 ?_
  refine g_lconst (pc := 3) dX12_count_3 cl_0 ?_
  refine g_ldc2 (pc := 4) tw1910 dX12_count_4 ?_
  refine g_bRi (pc := 7) (c_S (p_X12_in hl (x2.toInt64) (0 : Int64) (4 : Int64) h0) y_X12_in tw1782 dX12_count_7 rfl (st := [.ref (e_z E + x1)]) rfl (Nat.le_of_ble_eq_true rfl) (Nat.le_of_ble_eq_true rfl) (Nat.le_of_ble_eq_true rfl)) (fun x3 h1 => ?_)
  refine g_join (fun k => ∀ (x4 : Int32) (h2 : aH), J_X12_count l E n0 m0 18 [(0, .ref (e_z E + x1)), (1, .int x2)] [.int x4, .ref (e_z E + x1)] h2 (k x4 h2)) (fun x4 h2 => ?_) (fun k18 hk18 => ?_)
  · refine g_puti (pc := 18) cl12 (Nat.le_of_ble_eq_true rfl) (Or.inl ⟨rfl, fk1551⟩) (fun _ _ _ => rfl) (fun _ => ⟨rfl, rfl⟩) dX12_count_18 (fun h3 => ?_)
    refine g_aload_n (pc := 21) dX12_count_21 0 rfl ?_
    refine g_geti (pc := 22) cl12 (Nat.le_of_ble_eq_true rfl) fk1551 (fun _ _ _ => rfl) dX12_count_22 (fun x5 => ?_)
    refine g_ifle (pc := 25) (tgt := 30) dX12_count_25 rfl ?_ ?_
    · refine g_iload_n (pc := 30) dX12_count_30 1 rfl ?_
      refine g_join (fun k => ∀ (x6 : Int32) (h4 : aH), J_X12_count l E n0 m0 83 [] [.int x6] h4 (k x6 h4)) (fun x6 h4 => ?_) (fun k83 hk83 => ?_)
      · exact g_ret (pc := 83) rfl (isRet_i _) dX12_count_83 rfl
      refine g_ifne (pc := 31) (tgt := 41) dX12_count_31 rfl ?_ ?_
      · refine g_aload_n (pc := 34) dX12_count_34 0 rfl ?_
        refine g_geti (pc := 35) cl12 (Nat.le_of_ble_eq_true rfl) fk1559 (fun _ _ _ => rfl) dX12_count_35 (fun x7 => ?_)
        refine g_goto (pc := 38) (tgt := 83) dX12_count_38 rfl ?_
        refine g_lv [] rfl ?_
        exact hk83 x7 h3
      · refine g_iload_n (pc := 41) dX12_count_41 1 rfl ?_
        refine g_iconst (pc := 42) dX12_count_42 ci_1 ?_
        refine g_icmpne (pc := 43) (tgt := 53) dX12_count_43 rfl ?_ ?_
        · refine g_aload_n (pc := 46) dX12_count_46 0 rfl ?_
          refine g_geti (pc := 47) cl12 (Nat.le_of_ble_eq_true rfl) fk1560 (fun _ _ _ => rfl) dX12_count_47 (fun x8 => ?_)
          refine g_goto (pc := 50) (tgt := 83) dX12_count_50 rfl ?_
          refine g_lv [] rfl ?_
          exact hk83 x8 h3
        · refine g_iload_n (pc := 53) dX12_count_53 1 rfl ?_
          refine g_iconst (pc := 54) dX12_count_54 ci_2 ?_
          refine g_icmpne (pc := 55) (tgt := 65) dX12_count_55 rfl ?_ ?_
          · refine g_aload_n (pc := 58) dX12_count_58 0 rfl ?_
            refine g_geti (pc := 59) cl12 (Nat.le_of_ble_eq_true rfl) fk1561 (fun _ _ _ => rfl) dX12_count_59 (fun x9 => ?_)
            refine g_goto (pc := 62) (tgt := 83) dX12_count_62 rfl ?_
            refine g_lv [] rfl ?_
            exact hk83 x9 h3
          · refine g_iload_n (pc := 65) dX12_count_65 1 rfl ?_
            refine g_iconst (pc := 66) dX12_count_66 ci_3 ?_
            refine g_icmpne (pc := 67) (tgt := 77) dX12_count_67 rfl ?_ ?_
            · refine g_aload_n (pc := 70) dX12_count_70 0 rfl ?_
              refine g_geti (pc := 71) cl12 (Nat.le_of_ble_eq_true rfl) fk1562 (fun _ _ _ => rfl) dX12_count_71 (fun x10 => ?_)
              refine g_goto (pc := 74) (tgt := 83) dX12_count_74 rfl ?_
              refine g_lv [] rfl ?_
              exact hk83 x10 h3
            · refine g_aload_n (pc := 77) dX12_count_77 0 rfl ?_
              refine g_getr (pc := 78) cl12 (Nat.le_of_ble_eq_true rfl) fk1552 (fun _ _ _ => rfl) dX12_count_78 (fun x11 => ?_)
              refine g_iconst (pc := 81) dX12_count_81 ci_1 ?_
              refine g_iald (pc := 82) dX12_count_82 (fun x12 => ?_)
              refine g_lv [] rfl ?_
              exact hk83 x12 h3
    · refine g_iconst (pc := 28) dX12_count_28 ci_0 ?_
      exact g_ret (pc := 29) rfl (isRet_i _) dX12_count_29 rfl
  refine g_ifeq (pc := 10) (tgt := 17) dX12_count_10 rfl ?_ ?_
  · refine g_iconst (pc := 17) dX12_count_17 ci_1 ?_
    exact hk18 (1 : Int32) h1
  · refine g_iconst (pc := 13) dX12_count_13 ci_0 ?_
    refine g_goto (pc := 14) (tgt := 18) dX12_count_14 rfl ?_
    exact hk18 (0 : Int32) h1
theorem p_X12_count {l : Launch} {E : aE} (hl : l.stackTraces = false) (x1 : Nat) (x2 : Int32) (h0 : aH) : MO (fun (v : Int32) => .inl (some (.int v))) l E yX12_count (.code yX12_count cX12_count 2 (some .int)) 1 25 [.ref (e_z E + x1), .int x2] h0 (m_X12_count x1 x2 h0) := g_met hl (by decide +kernel) (Nat.le_of_ble_eq_true rfl) (b_X12_count hl _ _ x1 x2 h0)
theorem dX12_isNight_0 : decode cX12_isNight 0 = .ok (.iload_n 1, 1) := by decide +kernel
theorem dX12_isNight_1 : decode cX12_isNight 1 = .ok (.bipush 60, 2) := by decide +kernel
theorem dX12_isNight_3 : decode cX12_isNight 3 = .ok (.idiv, 1) := by decide +kernel
theorem dX12_isNight_4 : decode cX12_isNight 4 = .ok (.bipush 24, 2) := by decide +kernel
theorem dX12_isNight_6 : decode cX12_isNight 6 = .ok (.irem, 1) := by decide +kernel
theorem dX12_isNight_7 : decode cX12_isNight 7 = .ok (.istore_n 2, 1) := by decide +kernel
theorem dX12_isNight_8 : decode cX12_isNight 8 = .ok (.iload_n 2, 1) := by decide +kernel
theorem dX12_isNight_9 : decode cX12_isNight 9 = .ok (.aload_n 0, 1) := by decide +kernel
theorem dX12_isNight_10 : decode cX12_isNight 10 = .ok (.getfield 26, 3) := by decide +kernel
theorem dX12_isNight_13 : decode cX12_isNight 13 = .ok (.iconst 0, 1) := by decide +kernel
theorem dX12_isNight_14 : decode cX12_isNight 14 = .ok (.iaload, 1) := by decide +kernel
theorem dX12_isNight_15 : decode cX12_isNight 15 = .ok (.isub, 1) := by decide +kernel
theorem dX12_isNight_16 : decode cX12_isNight 16 = .ok (.bipush 24, 2) := by decide +kernel
theorem dX12_isNight_18 : decode cX12_isNight 18 = .ok (.iadd, 1) := by decide +kernel
theorem dX12_isNight_19 : decode cX12_isNight 19 = .ok (.bipush 24, 2) := by decide +kernel
theorem dX12_isNight_21 : decode cX12_isNight 21 = .ok (.irem, 1) := by decide +kernel
theorem dX12_isNight_22 : decode cX12_isNight 22 = .ok (.aload_n 0, 1) := by decide +kernel
theorem dX12_isNight_23 : decode cX12_isNight 23 = .ok (.getfield 26, 3) := by decide +kernel
theorem dX12_isNight_26 : decode cX12_isNight 26 = .ok (.iconst 1, 1) := by decide +kernel
theorem dX12_isNight_27 : decode cX12_isNight 27 = .ok (.iaload, 1) := by decide +kernel
theorem dX12_isNight_28 : decode cX12_isNight 28 = .ok (.aload_n 0, 1) := by decide +kernel
theorem dX12_isNight_29 : decode cX12_isNight 29 = .ok (.getfield 26, 3) := by decide +kernel
theorem dX12_isNight_32 : decode cX12_isNight 32 = .ok (.iconst 0, 1) := by decide +kernel
theorem dX12_isNight_33 : decode cX12_isNight 33 = .ok (.iaload, 1) := by decide +kernel
theorem dX12_isNight_34 : decode cX12_isNight 34 = .ok (.isub, 1) := by decide +kernel
theorem dX12_isNight_35 : decode cX12_isNight 35 = .ok (.bipush 24, 2) := by decide +kernel
theorem dX12_isNight_37 : decode cX12_isNight 37 = .ok (.iadd, 1) := by decide +kernel
theorem dX12_isNight_38 : decode cX12_isNight 38 = .ok (.bipush 24, 2) := by decide +kernel
theorem dX12_isNight_40 : decode cX12_isNight 40 = .ok (.irem, 1) := by decide +kernel
theorem dX12_isNight_41 : decode cX12_isNight 41 = .ok (.if_icmp .ge 7, 3) := by decide +kernel
theorem dX12_isNight_44 : decode cX12_isNight 44 = .ok (.iconst 1, 1) := by decide +kernel
theorem dX12_isNight_45 : decode cX12_isNight 45 = .ok (.goto 4, 3) := by decide +kernel
theorem dX12_isNight_48 : decode cX12_isNight 48 = .ok (.iconst 0, 1) := by decide +kernel
theorem dX12_isNight_49 : decode cX12_isNight 49 = .ok (.ireturn, 1) := by decide +kernel
abbrev M_X12_isNight : aM := (yX12_isNight.cls, cX12_isNight, 3, (some .boolean), [], yX12_isNight.name == "<init>")
abbrev J_X12_isNight (l : Launch) (E : aE) (n0 m0 : Nat) := GG (fun (v : Int32) => .inl (some (.int v))) l E M_X12_isNight 0 0 n0 m0
theorem b_X12_isNight {l : Launch} {E : aE} (hl : l.stackTraces = false) (n0 m0 : Nat) (x1 : Nat) (x2 : Int32) (h0 : aH) : J_X12_isNight l E n0 m0 0 [(0, .ref (e_z E + x1)), (1, .int x2)] [] h0 (m_X12_isNight x1 x2 h0) := by
  unfold m_X12_isNight
  refine g_iload_n (pc := 0) dX12_isNight_0 1 rfl ?_
  refine g_bipush (pc := 1) dX12_isNight_1 cb_60 ?_
  refine g_idiv (pc := 3) dX12_isNight_3 (fun x3 => ?_)
  refine g_bipush (pc := 4) dX12_isNight_4 cb_24 ?_
  refine g_irem (pc := 6) dX12_isNight_6 (fun x4 => ?_)
  refine g_istore_n (pc := 7) (lv' := [(2, .int x4), (0, .ref (e_z E + x1)), (1, .int x2)]) dX12_isNight_7 (Nat.le_of_ble_eq_true rfl) rfl ?_
  refine g_iload_n (pc := 8) dX12_isNight_8 0 rfl ?_
  refine g_aload_n (pc := 9) dX12_isNight_9 1 rfl ?_
  refine g_getr (pc := 10) cl12 (Nat.le_of_ble_eq_true rfl) fk1558 (fun _ _ _ => rfl) dX12_isNight_10 (fun x5 => ?_)
  refine g_iconst (pc := 13) dX12_isNight_13 ci_0 ?_
  refine g_iald (pc := 14) dX12_isNight_14 (fun x6 => ?_)
  refine g_isub (pc := 15) dX12_isNight_15 ?_
  refine g_bipush (pc := 16) dX12_isNight_16 cb_24 ?_
  refine g_iadd (pc := 18) dX12_isNight_18 ?_
  refine g_bipush (pc := 19) dX12_isNight_19 cb_24 ?_
  refine g_irem (pc := 21) dX12_isNight_21 (fun x7 => ?_)
  refine g_aload_n (pc := 22) dX12_isNight_22 1 rfl ?_
  refine g_getr (pc := 23) cl12 (Nat.le_of_ble_eq_true rfl) fk1558 (fun _ _ _ => rfl) dX12_isNight_23 (fun x8 => ?_)
  refine g_iconst (pc := 26) dX12_isNight_26 ci_1 ?_
  refine g_iald (pc := 27) dX12_isNight_27 (fun x9 => ?_)
  refine g_aload_n (pc := 28) dX12_isNight_28 1 rfl ?_
  refine g_getr (pc := 29) cl12 (Nat.le_of_ble_eq_true rfl) fk1558 (fun _ _ _ => rfl) dX12_isNight_29 (fun x10 => ?_)
  refine g_iconst (pc := 32) dX12_isNight_32 ci_0 ?_
  refine g_iald (pc := 33) dX12_isNight_33 (fun x11 => ?_)
  refine g_isub (pc := 34) dX12_isNight_34 ?_
  refine g_bipush (pc := 35) dX12_isNight_35 cb_24 ?_
  refine g_iadd (pc := 37) dX12_isNight_37 ?_
  refine g_bipush (pc := 38) dX12_isNight_38 cb_24 ?_
  refine g_irem (pc := 40) dX12_isNight_40 (fun x12 => ?_)
  refine g_join (fun k => ∀ (x13 : Int32) (h1 : aH), J_X12_isNight l E n0 m0 49 [] [.int x13] h1 (k x13 h1)) (fun x13 h1 => ?_) (fun k49 hk49 => ?_)
  · refine g_zO (fun hz => ?_)
    exact g_ret (pc := 49) rfl (isRet_z hz) dX12_isNight_49 rfl
  refine g_icmpge (pc := 41) (tgt := 48) dX12_isNight_41 rfl ?_ ?_
  · refine g_iconst (pc := 44) dX12_isNight_44 ci_1 ?_
    refine g_goto (pc := 45) (tgt := 49) dX12_isNight_45 rfl ?_
    refine g_lv [] rfl ?_
    exact hk49 (1 : Int32) h0
  · refine g_iconst (pc := 48) dX12_isNight_48 ci_0 ?_
    refine g_lv [] rfl ?_
    exact hk49 (0 : Int32) h0
theorem p_X12_isNight {l : Launch} {E : aE} (hl : l.stackTraces = false) (x1 : Nat) (x2 : Int32) (h0 : aH) : MO (fun (v : Int32) => .inl (some (.int v))) l E yX12_isNight (.code yX12_isNight cX12_isNight 3 (some .boolean)) 0 0 [.ref (e_z E + x1), .int x2] h0 (m_X12_isNight x1 x2 h0) := g_met hl (by decide +kernel) (Nat.le_of_ble_eq_true rfl) (b_X12_isNight hl _ _ x1 x2 h0)
theorem dX12_isOut_0 : decode cX12_isOut 0 = .ok (.aload_n 0, 1) := by decide +kernel
theorem dX12_isOut_1 : decode cX12_isOut 1 = .ok (.getfield 7, 3) := by decide +kernel
theorem dX12_isOut_4 : decode cX12_isOut 4 = .ok (.bipush 14, 2) := by decide +kernel
theorem dX12_isOut_6 : decode cX12_isOut 6 = .ok (.iload_n 1, 1) := by decide +kernel
theorem dX12_isOut_7 : decode cX12_isOut 7 = .ok (.iadd, 1) := by decide +kernel
theorem dX12_isOut_8 : decode cX12_isOut 8 = .ok (.iaload, 1) := by decide +kernel
theorem dX12_isOut_9 : decode cX12_isOut 9 = .ok (.aload_n 0, 1) := by decide +kernel
theorem dX12_isOut_10 : decode cX12_isOut 10 = .ok (.getfield 7, 3) := by decide +kernel
theorem dX12_isOut_13 : decode cX12_isOut 13 = .ok (.iconst 0, 1) := by decide +kernel
theorem dX12_isOut_14 : decode cX12_isOut 14 = .ok (.iaload, 1) := by decide +kernel
theorem dX12_isOut_15 : decode cX12_isOut 15 = .ok (.if_icmp .le 7, 3) := by decide +kernel
theorem dX12_isOut_18 : decode cX12_isOut 18 = .ok (.iconst 1, 1) := by decide +kernel
theorem dX12_isOut_19 : decode cX12_isOut 19 = .ok (.goto 4, 3) := by decide +kernel
theorem dX12_isOut_22 : decode cX12_isOut 22 = .ok (.iconst 0, 1) := by decide +kernel
theorem dX12_isOut_23 : decode cX12_isOut 23 = .ok (.ireturn, 1) := by decide +kernel
abbrev M_X12_isOut : aM := (yX12_isOut.cls, cX12_isOut, 2, (some .boolean), [], yX12_isOut.name == "<init>")
abbrev J_X12_isOut (l : Launch) (E : aE) (n0 m0 : Nat) := GG (fun (v : Int32) => .inl (some (.int v))) l E M_X12_isOut 0 0 n0 m0
theorem b_X12_isOut {l : Launch} {E : aE} (hl : l.stackTraces = false) (n0 m0 : Nat) (x1 : Nat) (x2 : Int32) (h0 : aH) : J_X12_isOut l E n0 m0 0 [(0, .ref (e_z E + x1)), (1, .int x2)] [] h0 (m_X12_isOut x1 x2 h0) := by
  unfold m_X12_isOut
  refine g_aload_n (pc := 0) dX12_isOut_0 0 rfl ?_
  refine g_getr (pc := 1) cl12 (Nat.le_of_ble_eq_true rfl) fk1552 (fun _ _ _ => rfl) dX12_isOut_1 (fun x3 => ?_)
  refine g_bipush (pc := 4) dX12_isOut_4 cb_14 ?_
  refine g_iload_n (pc := 6) dX12_isOut_6 1 rfl ?_
  refine g_iadd (pc := 7) dX12_isOut_7 ?_
  refine g_iald (pc := 8) dX12_isOut_8 (fun x4 => ?_)
  refine g_aload_n (pc := 9) dX12_isOut_9 0 rfl ?_
  refine g_getr (pc := 10) cl12 (Nat.le_of_ble_eq_true rfl) fk1552 (fun _ _ _ => rfl) dX12_isOut_10 (fun x5 => ?_)
  refine g_iconst (pc := 13) dX12_isOut_13 ci_0 ?_
  refine g_iald (pc := 14) dX12_isOut_14 (fun x6 => ?_)
  refine g_join (fun k => ∀ (x7 : Int32) (h1 : aH), J_X12_isOut l E n0 m0 23 [] [.int x7] h1 (k x7 h1)) (fun x7 h1 => ?_) (fun k23 hk23 => ?_)
  · refine g_zO (fun hz => ?_)
    exact g_ret (pc := 23) rfl (isRet_z hz) dX12_isOut_23 rfl
  refine g_icmple (pc := 15) (tgt := 22) dX12_isOut_15 rfl ?_ ?_
  · refine g_iconst (pc := 22) dX12_isOut_22 ci_0 ?_
    refine g_lv [] rfl ?_
    exact hk23 (0 : Int32) h0
  · refine g_iconst (pc := 18) dX12_isOut_18 ci_1 ?_
    refine g_goto (pc := 19) (tgt := 23) dX12_isOut_19 rfl ?_
    refine g_lv [] rfl ?_
    exact hk23 (1 : Int32) h0
theorem p_X12_isOut {l : Launch} {E : aE} (hl : l.stackTraces = false) (x1 : Nat) (x2 : Int32) (h0 : aH) : MO (fun (v : Int32) => .inl (some (.int v))) l E yX12_isOut (.code yX12_isOut cX12_isOut 2 (some .boolean)) 0 0 [.ref (e_z E + x1), .int x2] h0 (m_X12_isOut x1 x2 h0) := g_met hl (by decide +kernel) (Nat.le_of_ble_eq_true rfl) (b_X12_isOut hl _ _ x1 x2 h0)
theorem dX12_isTired_0 : decode cX12_isTired 0 = .ok (.aload_n 0, 1) := by decide +kernel
theorem dX12_isTired_1 : decode cX12_isTired 1 = .ok (.getfield 7, 3) := by decide +kernel
theorem dX12_isTired_4 : decode cX12_isTired 4 = .ok (.iconst 2, 1) := by decide +kernel
theorem dX12_isTired_5 : decode cX12_isTired 5 = .ok (.iload_n 1, 1) := by decide +kernel
theorem dX12_isTired_6 : decode cX12_isTired 6 = .ok (.iadd, 1) := by decide +kernel
theorem dX12_isTired_7 : decode cX12_isTired 7 = .ok (.iaload, 1) := by decide +kernel
theorem dX12_isTired_8 : decode cX12_isTired 8 = .ok (.aload_n 0, 1) := by decide +kernel
theorem dX12_isTired_9 : decode cX12_isTired 9 = .ok (.getfield 26, 3) := by decide +kernel
theorem dX12_isTired_12 : decode cX12_isTired 12 = .ok (.iconst 3, 1) := by decide +kernel
theorem dX12_isTired_13 : decode cX12_isTired 13 = .ok (.iaload, 1) := by decide +kernel
theorem dX12_isTired_14 : decode cX12_isTired 14 = .ok (.if_icmp .lt 7, 3) := by decide +kernel
theorem dX12_isTired_17 : decode cX12_isTired 17 = .ok (.iconst 1, 1) := by decide +kernel
theorem dX12_isTired_18 : decode cX12_isTired 18 = .ok (.goto 4, 3) := by decide +kernel
theorem dX12_isTired_21 : decode cX12_isTired 21 = .ok (.iconst 0, 1) := by decide +kernel
theorem dX12_isTired_22 : decode cX12_isTired 22 = .ok (.ireturn, 1) := by decide +kernel
abbrev M_X12_isTired : aM := (yX12_isTired.cls, cX12_isTired, 2, (some .boolean), [], yX12_isTired.name == "<init>")
abbrev J_X12_isTired (l : Launch) (E : aE) (n0 m0 : Nat) := GG (fun (v : Int32) => .inl (some (.int v))) l E M_X12_isTired 0 0 n0 m0
theorem b_X12_isTired {l : Launch} {E : aE} (hl : l.stackTraces = false) (n0 m0 : Nat) (x1 : Nat) (x2 : Int32) (h0 : aH) : J_X12_isTired l E n0 m0 0 [(0, .ref (e_z E + x1)), (1, .int x2)] [] h0 (m_X12_isTired x1 x2 h0) := by
  unfold m_X12_isTired
  refine g_aload_n (pc := 0) dX12_isTired_0 0 rfl ?_
  refine g_getr (pc := 1) cl12 (Nat.le_of_ble_eq_true rfl) fk1552 (fun _ _ _ => rfl) dX12_isTired_1 (fun x3 => ?_)
  refine g_iconst (pc := 4) dX12_isTired_4 ci_2 ?_
  refine g_iload_n (pc := 5) dX12_isTired_5 1 rfl ?_
  refine g_iadd (pc := 6) dX12_isTired_6 ?_
  refine g_iald (pc := 7) dX12_isTired_7 (fun x4 => ?_)
  refine g_aload_n (pc := 8) dX12_isTired_8 0 rfl ?_
  refine g_getr (pc := 9) cl12 (Nat.le_of_ble_eq_true rfl) fk1558 (fun _ _ _ => rfl) dX12_isTired_9 (fun x5 => ?_)
  refine g_iconst (pc := 12) dX12_isTired_12 ci_3 ?_
  refine g_iald (pc := 13) dX12_isTired_13 (fun x6 => ?_)
  refine g_join (fun k => ∀ (x7 : Int32) (h1 : aH), J_X12_isTired l E n0 m0 22 [] [.int x7] h1 (k x7 h1)) (fun x7 h1 => ?_) (fun k22 hk22 => ?_)
  · refine g_zO (fun hz => ?_)
    exact g_ret (pc := 22) rfl (isRet_z hz) dX12_isTired_22 rfl
  refine g_icmplt (pc := 14) (tgt := 21) dX12_isTired_14 rfl ?_ ?_
  · refine g_iconst (pc := 21) dX12_isTired_21 ci_0 ?_
    refine g_lv [] rfl ?_
    exact hk22 (0 : Int32) h0
  · refine g_iconst (pc := 17) dX12_isTired_17 ci_1 ?_
    refine g_goto (pc := 18) (tgt := 22) dX12_isTired_18 rfl ?_
    refine g_lv [] rfl ?_
    exact hk22 (1 : Int32) h0
theorem p_X12_isTired {l : Launch} {E : aE} (hl : l.stackTraces = false) (x1 : Nat) (x2 : Int32) (h0 : aH) : MO (fun (v : Int32) => .inl (some (.int v))) l E yX12_isTired (.code yX12_isTired cX12_isTired 2 (some .boolean)) 0 0 [.ref (e_z E + x1), .int x2] h0 (m_X12_isTired x1 x2 h0) := g_met hl (by decide +kernel) (Nat.le_of_ble_eq_true rfl) (b_X12_isTired hl _ _ x1 x2 h0)
theorem dX12_arrivalOf_0 : decode cX12_arrivalOf 0 = .ok (.aload_n 0, 1) := by decide +kernel
theorem dX12_arrivalOf_1 : decode cX12_arrivalOf 1 = .ok (.getfield 33, 3) := by decide +kernel
theorem dX12_arrivalOf_4 : decode cX12_arrivalOf 4 = .ok (.iload_n 1, 1) := by decide +kernel
theorem dX12_arrivalOf_5 : decode cX12_arrivalOf 5 = .ok (.iaload, 1) := by decide +kernel
theorem dX12_arrivalOf_6 : decode cX12_arrivalOf 6 = .ok (.aload_n 0, 1) := by decide +kernel
theorem dX12_arrivalOf_7 : decode cX12_arrivalOf 7 = .ok (.aload_n 0, 1) := by decide +kernel
theorem dX12_arrivalOf_8 : decode cX12_arrivalOf 8 = .ok (.getfield 7, 3) := by decide +kernel
theorem dX12_arrivalOf_11 : decode cX12_arrivalOf 11 = .ok (.iconst 0, 1) := by decide +kernel
theorem dX12_arrivalOf_12 : decode cX12_arrivalOf 12 = .ok (.iaload, 1) := by decide +kernel
theorem dX12_arrivalOf_13 : decode cX12_arrivalOf 13 = .ok (.invokevirtual 347, 3) := by decide +kernel
theorem dX12_arrivalOf_16 : decode cX12_arrivalOf 16 = .ok (.ifCond .eq 12, 3) := by decide +kernel
theorem dX12_arrivalOf_19 : decode cX12_arrivalOf 19 = .ok (.aload_n 0, 1) := by decide +kernel
theorem dX12_arrivalOf_20 : decode cX12_arrivalOf 20 = .ok (.getfield 26, 3) := by decide +kernel
theorem dX12_arrivalOf_23 : decode cX12_arrivalOf 23 = .ok (.iconst 2, 1) := by decide +kernel
theorem dX12_arrivalOf_24 : decode cX12_arrivalOf 24 = .ok (.iaload, 1) := by decide +kernel
theorem dX12_arrivalOf_25 : decode cX12_arrivalOf 25 = .ok (.goto 4, 3) := by decide +kernel
theorem dX12_arrivalOf_28 : decode cX12_arrivalOf 28 = .ok (.iconst 0, 1) := by decide +kernel
theorem dX12_arrivalOf_29 : decode cX12_arrivalOf 29 = .ok (.iadd, 1) := by decide +kernel
theorem dX12_arrivalOf_30 : decode cX12_arrivalOf 30 = .ok (.ireturn, 1) := by decide +kernel
abbrev M_X12_arrivalOf : aM := (yX12_arrivalOf.cls, cX12_arrivalOf, 2, (some .int), [], yX12_arrivalOf.name == "<init>")
abbrev J_X12_arrivalOf (l : Launch) (E : aE) (n0 m0 : Nat) := GG (fun (v : Int32) => .inl (some (.int v))) l E M_X12_arrivalOf 1 22 n0 m0
theorem b_X12_arrivalOf {l : Launch} {E : aE} (hl : l.stackTraces = false) (n0 m0 : Nat) (x1 : Nat) (x2 : Int32) (h0 : aH) : J_X12_arrivalOf l E n0 m0 0 [(0, .ref (e_z E + x1)), (1, .int x2)] [] h0 (m_X12_arrivalOf x1 x2 h0) := by
  unfold m_X12_arrivalOf
  refine g_aload_n (pc := 0) dX12_arrivalOf_0 0 rfl ?_
  refine g_getr (pc := 1) cl12 (Nat.le_of_ble_eq_true rfl) fk1564 (fun _ _ _ => rfl) dX12_arrivalOf_1 (fun x3 => ?_)
  refine g_iload_n (pc := 4) dX12_arrivalOf_4 1 rfl ?_
  refine g_iald (pc := 5) dX12_arrivalOf_5 (fun x4 => ?_)
  refine g_aload_n (pc := 6) dX12_arrivalOf_6 0 rfl ?_
  refine g_aload_n (pc := 7) dX12_arrivalOf_7 0 rfl ?_
  refine g_getr (pc := 8) cl12 (Nat.le_of_ble_eq_true rfl) fk1552 (fun _ _ _ => rfl) dX12_arrivalOf_8 (fun x5 => ?_)
  refine g_iconst (pc := 11) dX12_arrivalOf_11 ci_0 ?_
  refine g_iald (pc := 12) dX12_arrivalOf_12 (fun x6 => ?_)
  refine g_gS (fun hs => ?_)
  refine g_bRi (pc := 13) (c_V cl12 hs (p_X12_isNight hl x1 x6 h0) y_X12_isNight tw1919 dX12_arrivalOf_13 rfl (st := [.int x4]) rfl (Nat.le_of_ble_eq_true rfl) (Nat.le_of_ble_eq_true rfl) (Nat.le_of_ble_eq_true rfl)) (fun x7 h1 => ?_)
  refine g_join (fun k => ∀ (x8 : Int32) (h2 : aH), J_X12_arrivalOf l E n0 m0 29 [] [.int x8, .int x4] h2 (k x8 h2)) (fun x8 h2 => ?_) (fun k29 hk29 => ?_)
  · refine g_iadd (pc := 29) dX12_arrivalOf_29 ?_
    exact g_ret (pc := 30) rfl (isRet_i _) dX12_arrivalOf_30 rfl
  refine g_ifeq (pc := 16) (tgt := 28) dX12_arrivalOf_16 rfl ?_ ?_
  · refine g_iconst (pc := 28) dX12_arrivalOf_28 ci_0 ?_
    refine g_lv [] rfl ?_
    exact hk29 (0 : Int32) h1
  · refine g_aload_n (pc := 19) dX12_arrivalOf_19 0 rfl ?_
    refine g_getr (pc := 20) cl12 (Nat.le_of_ble_eq_true rfl) fk1558 (fun _ _ _ => rfl) dX12_arrivalOf_20 (fun x9 => ?_)
    refine g_iconst (pc := 23) dX12_arrivalOf_23 ci_2 ?_
    refine g_iald (pc := 24) dX12_arrivalOf_24 (fun x10 => ?_)
    refine g_goto (pc := 25) (tgt := 29) dX12_arrivalOf_25 rfl ?_
    refine g_lv [] rfl ?_
    exact hk29 x10 h1
theorem p_X12_arrivalOf {l : Launch} {E : aE} (hl : l.stackTraces = false) (x1 : Nat) (x2 : Int32) (h0 : aH) : MO (fun (v : Int32) => .inl (some (.int v))) l E yX12_arrivalOf (.code yX12_arrivalOf cX12_arrivalOf 2 (some .int)) 1 22 [.ref (e_z E + x1), .int x2] h0 (m_X12_arrivalOf x1 x2 h0) := g_met hl (by decide +kernel) (Nat.le_of_ble_eq_true rfl) (b_X12_arrivalOf hl _ _ x1 x2 h0)
theorem dX12_grows_0 : decode cX12_grows 0 = .ok (.iconst 0, 1) := by decide +kernel
theorem dX12_grows_1 : decode cX12_grows 1 = .ok (.istore_n 2, 1) := by decide +kernel
theorem dX12_grows_2 : decode cX12_grows 2 = .ok (.iload_n 2, 1) := by decide +kernel
theorem dX12_grows_3 : decode cX12_grows 3 = .ok (.aload_n 0, 1) := by decide +kernel
theorem dX12_grows_4 : decode cX12_grows 4 = .ok (.getfield 325, 3) := by decide +kernel
theorem dX12_grows_7 : decode cX12_grows 7 = .ok (.if_icmp .ge 95, 3) := by decide +kernel
theorem dX12_grows_10 : decode cX12_grows 10 = .ok (.iconst 0, 1) := by decide +kernel
theorem dX12_grows_11 : decode cX12_grows 11 = .ok (.istore_n 3, 1) := by decide +kernel
theorem dX12_grows_12 : decode cX12_grows 12 = .ok (.iload_n 3, 1) := by decide +kernel
theorem dX12_grows_13 : decode cX12_grows 13 = .ok (.aload_n 0, 1) := by decide +kernel
theorem dX12_grows_14 : decode cX12_grows 14 = .ok (.getfield 325, 3) := by decide +kernel
theorem dX12_grows_17 : decode cX12_grows 17 = .ok (.if_icmp .ge 79, 3) := by decide +kernel
theorem dX12_grows_20 : decode cX12_grows 20 = .ok (.iload_n 2, 1) := by decide +kernel
theorem dX12_grows_21 : decode cX12_grows 21 = .ok (.iload_n 3, 1) := by decide +kernel
theorem dX12_grows_22 : decode cX12_grows 22 = .ok (.if_icmp .eq 23, 3) := by decide +kernel
theorem dX12_grows_25 : decode cX12_grows 25 = .ok (.iload_n 1, 1) := by decide +kernel
theorem dX12_grows_26 : decode cX12_grows 26 = .ok (.iload_n 2, 1) := by decide +kernel
theorem dX12_grows_27 : decode cX12_grows 27 = .ok (.ishr, 1) := by decide +kernel
theorem dX12_grows_28 : decode cX12_grows 28 = .ok (.iconst 1, 1) := by decide +kernel
theorem dX12_grows_29 : decode cX12_grows 29 = .ok (.iand, 1) := by decide +kernel
theorem dX12_grows_30 : decode cX12_grows 30 = .ok (.ifCond .eq 15, 3) := by decide +kernel
theorem dX12_grows_33 : decode cX12_grows 33 = .ok (.iload_n 1, 1) := by decide +kernel
theorem dX12_grows_34 : decode cX12_grows 34 = .ok (.iload_n 3, 1) := by decide +kernel
theorem dX12_grows_35 : decode cX12_grows 35 = .ok (.ishr, 1) := by decide +kernel
theorem dX12_grows_36 : decode cX12_grows 36 = .ok (.iconst 1, 1) := by decide +kernel
theorem dX12_grows_37 : decode cX12_grows 37 = .ok (.iand, 1) := by decide +kernel
theorem dX12_grows_38 : decode cX12_grows 38 = .ok (.ifCond .eq 7, 3) := by decide +kernel
theorem dX12_grows_41 : decode cX12_grows 41 = .ok (.iconst 1, 1) := by decide +kernel
theorem dX12_grows_42 : decode cX12_grows 42 = .ok (.goto 4, 3) := by decide +kernel
theorem dX12_grows_45 : decode cX12_grows 45 = .ok (.iconst 0, 1) := by decide +kernel
theorem dX12_grows_46 : decode cX12_grows 46 = .ok (.istore 4, 2) := by decide +kernel
theorem dX12_grows_48 : decode cX12_grows 48 = .ok (.iload 4, 2) := by decide +kernel
theorem dX12_grows_50 : decode cX12_grows 50 = .ok (.ifCond .eq 40, 3) := by decide +kernel
theorem dX12_grows_53 : decode cX12_grows 53 = .ok (.aload_n 0, 1) := by decide +kernel
theorem dX12_grows_54 : decode cX12_grows 54 = .ok (.getfield 7, 3) := by decide +kernel
theorem dX12_grows_57 : decode cX12_grows 57 = .ok (.bipush 50, 2) := by decide +kernel
theorem dX12_grows_59 : decode cX12_grows 59 = .ok (.bipush 12, 2) := by decide +kernel
theorem dX12_grows_61 : decode cX12_grows 61 = .ok (.iload_n 2, 1) := by decide +kernel
theorem dX12_grows_62 : decode cX12_grows 62 = .ok (.imul, 1) := by decide +kernel
theorem dX12_grows_63 : decode cX12_grows 63 = .ok (.iadd, 1) := by decide +kernel
theorem dX12_grows_64 : decode cX12_grows 64 = .ok (.iload_n 3, 1) := by decide +kernel
theorem dX12_grows_65 : decode cX12_grows 65 = .ok (.iadd, 1) := by decide +kernel
theorem dX12_grows_66 : decode cX12_grows 66 = .ok (.iaload, 1) := by decide +kernel
theorem dX12_grows_67 : decode cX12_grows 67 = .ok (.bipush 9, 2) := by decide +kernel
theorem dX12_grows_69 : decode cX12_grows 69 = .ok (.if_icmp .ge 21, 3) := by decide +kernel
theorem dX12_grows_72 : decode cX12_grows 72 = .ok (.aload_n 0, 1) := by decide +kernel
theorem dX12_grows_73 : decode cX12_grows 73 = .ok (.getfield 7, 3) := by decide +kernel
theorem dX12_grows_76 : decode cX12_grows 76 = .ok (.bipush 50, 2) := by decide +kernel
theorem dX12_grows_78 : decode cX12_grows 78 = .ok (.bipush 12, 2) := by decide +kernel
theorem dX12_grows_80 : decode cX12_grows 80 = .ok (.iload_n 2, 1) := by decide +kernel
theorem dX12_grows_81 : decode cX12_grows 81 = .ok (.imul, 1) := by decide +kernel
theorem dX12_grows_82 : decode cX12_grows 82 = .ok (.iadd, 1) := by decide +kernel
theorem dX12_grows_83 : decode cX12_grows 83 = .ok (.iload_n 3, 1) := by decide +kernel
theorem dX12_grows_84 : decode cX12_grows 84 = .ok (.iadd, 1) := by decide +kernel
theorem dX12_grows_85 : decode cX12_grows 85 = .ok (.dup2, 1) := by decide +kernel
theorem dX12_grows_86 : decode cX12_grows 86 = .ok (.iaload, 1) := by decide +kernel
theorem dX12_grows_87 : decode cX12_grows 87 = .ok (.iconst 1, 1) := by decide +kernel
theorem dX12_grows_88 : decode cX12_grows 88 = .ok (.iadd, 1) := by decide +kernel
theorem dX12_grows_89 : decode cX12_grows 89 = .ok (.iastore, 1) := by decide +kernel
theorem dX12_grows_90 : decode cX12_grows 90 = .ok (.iinc 3 1, 3) := by decide +kernel
theorem dX12_grows_93 : decode cX12_grows 93 = .ok (.goto (-81), 3) := by decide +kernel
theorem dX12_grows_96 : decode cX12_grows 96 = .ok (.iinc 2 1, 3) := by decide +kernel
theorem dX12_grows_99 : decode cX12_grows 99 = .ok (.goto (-97), 3) := by decide +kernel
theorem dX12_grows_102 : decode cX12_grows 102 = .ok (.return_, 1) := by decide +kernel
abbrev M_X12_grows : aM := (yX12_grows.cls, cX12_grows, 5, none, [], yX12_grows.name == "<init>")
abbrev J_X12_grows (l : Launch) (E : aE) (n0 m0 : Nat) := GG (fun (_ : Unit) => .inl none) l E M_X12_grows 0 0 n0 m0
theorem b_X12_grows {l : Launch} {E : aE} (hl : l.stackTraces = false) (n0 m0 : Nat) (x1 : Nat) (x2 : Int32) (h0 : aH) : J_X12_grows l E n0 m0 0 [(0, .ref (e_z E + x1)), (1, .int x2)] [] h0 (m_X12_grows x1 x2 h0) := by
  unfold m_X12_grows
  refine g_iconst (pc := 0) dX12_grows_0 ci_0 ?_
  refine g_istore_n (pc := 1) (lv' := [(2, .int (0 : Int32)), (0, .ref (e_z E + x1)), (1, .int x2)]) dX12_grows_1 (Nat.le_of_ble_eq_true rfl) rfl ?_
  refine g_join (fun k => ∀ (h1 : aH), J_X12_grows l E n0 m0 102 [] [] h1 (k h1)) (fun h1 => ?_) (fun k102 hk102 => ?_)
  · exact g_ret (pc := 102) rfl isRet_v dX12_grows_102 rfl
  refine g_lv [1, 2, 0] rfl ?_
  refine g_loop1 (F := (m_X12_grows_L2 x1 x2 k102)) (fun x3 => [(0, .ref (e_z E + x1)), (1, .int x2), (2, .int x3)]) (fun r2 hr2 x3 h2 => ?_) _ _ _
  unfold m_X12_grows_L2
  refine g_iload_n (pc := 2) dX12_grows_2 2 rfl ?_
  refine g_aload_n (pc := 3) dX12_grows_3 0 rfl ?_
  refine g_geti (pc := 4) cl12 (Nat.le_of_ble_eq_true rfl) fk1559 (fun _ _ _ => rfl) dX12_grows_4 (fun x4 => ?_)
  refine g_icmpge (pc := 7) (tgt := 102) dX12_grows_7 rfl ?_ ?_
  · refine g_iconst (pc := 10) dX12_grows_10 ci_0 ?_
    refine g_istore_n (pc := 11) (lv' := [(3, .int (0 : Int32)), (0, .ref (e_z E + x1)), (1, .int x2), (2, .int x3)]) dX12_grows_11 (Nat.le_of_ble_eq_true rfl) rfl ?_
    refine g_join (fun k => ∀ (h3 : aH), J_X12_grows l E n0 m0 96 [(0, .ref (e_z E + x1)), (1, .int x2), (2, .int x3)] [] h3 (k h3)) (fun h3 => ?_) (fun k96 hk96 => ?_)
    · refine g_iincN (pc := 96) dX12_grows_96 2 rfl ci_1 (Nat.le_of_ble_eq_true rfl) (fun x5 => ?_)
      refine g_lvr (lv' := [(2, .int x5), (0, .ref (e_z E + x1)), (1, .int x2)]) rfl ?_
      refine g_goto (pc := 99) (tgt := 2) dX12_grows_99 rfl ?_
      refine g_lv [1, 2, 0] rfl ?_
      exact hr2 x5 h3
    refine g_lv [1, 2, 3, 0] rfl ?_
    refine g_loop1 (F := (m_X12_grows_L12 x1 x2 x3 k96)) (fun x6 => [(0, .ref (e_z E + x1)), (1, .int x2), (2, .int x3), (3, .int x6)]) (fun r12 hr12 x6 h4 => ?_) _ _ _
    unfold m_X12_grows_L12
    refine g_iload_n (pc := 12) dX12_grows_12 3 rfl ?_
    refine g_aload_n (pc := 13) dX12_grows_13 0 rfl ?_
    refine g_geti (pc := 14) cl12 (Nat.le_of_ble_eq_true rfl) fk1559 (fun _ _ _ => rfl) dX12_grows_14 (fun x7 => ?_)
    refine g_icmpge (pc := 17) (tgt := 96) dX12_grows_17 rfl ?_ ?_
    · refine g_iload_n (pc := 20) dX12_grows_20 2 rfl ?_
      refine g_iload_n (pc := 21) dX12_grows_21 3 rfl ?_
      refine g_join (fun k => ∀ (x8 : Int32) (h5 : aH), J_X12_grows l E n0 m0 46 [(0, .ref (e_z E + x1)), (1, .int x2), (2, .int x3), (3, .int x6)] [.int x8] h5 (k x8 h5)) (fun x8 h5 => ?_) (fun k46 hk46 => ?_)
      · refine g_istore (pc := 46) (lv' := [(4, .int x8), (0, .ref (e_z E + x1)), (1, .int x2), (2, .int x3), (3, .int x6)]) dX12_grows_46 (Nat.le_of_ble_eq_true rfl) rfl ?_
        refine g_iload (pc := 48) dX12_grows_48 0 rfl ?_
        refine g_join (fun k => ∀ (h6 : aH), J_X12_grows l E n0 m0 90 [(0, .ref (e_z E + x1)), (1, .int x2), (2, .int x3), (3, .int x6)] [] h6 (k h6)) (fun h6 => ?_) (fun k90 hk90 => ?_)
        · refine g_iincN (pc := 90) dX12_grows_90 3 rfl ci_1 (Nat.le_of_ble_eq_true rfl) (fun x9 => ?_)
          refine g_lvr (lv' := [(3, .int x9), (0, .ref (e_z E + x1)), (1, .int x2), (2, .int x3)]) rfl ?_
          refine g_goto (pc := 93) (tgt := 12) dX12_grows_93 rfl ?_
          refine g_lv [1, 2, 3, 0] rfl ?_
          exact hr12 x9 h6
        refine g_ifeq (pc := 50) (tgt := 90) dX12_grows_50 rfl ?_ ?_
        · refine g_lv [1, 2, 3, 4] rfl ?_
          exact hk90 h5
        · refine g_aload_n (pc := 53) dX12_grows_53 1 rfl ?_
          refine g_getr (pc := 54) cl12 (Nat.le_of_ble_eq_true rfl) fk1552 (fun _ _ _ => rfl) dX12_grows_54 (fun x10 => ?_)
          refine g_bipush (pc := 57) dX12_grows_57 cb_50 ?_
          refine g_bipush (pc := 59) dX12_grows_59 cb_12 ?_
          refine g_iload_n (pc := 61) dX12_grows_61 3 rfl ?_
          refine g_imul (pc := 62) dX12_grows_62 ?_
          refine g_iadd (pc := 63) dX12_grows_63 ?_
          refine g_iload_n (pc := 64) dX12_grows_64 4 rfl ?_
          refine g_iadd (pc := 65) dX12_grows_65 ?_
          refine g_iald (pc := 66) dX12_grows_66 (fun x11 => ?_)
          refine g_bipush (pc := 67) dX12_grows_67 cb_9 ?_
          refine g_icmpge (pc := 69) (tgt := 90) dX12_grows_69 rfl ?_ ?_
          · refine g_aload_n (pc := 72) dX12_grows_72 1 rfl ?_
            refine g_getr (pc := 73) cl12 (Nat.le_of_ble_eq_true rfl) fk1552 (fun _ _ _ => rfl) dX12_grows_73 (fun x12 => ?_)
            refine g_bipush (pc := 76) dX12_grows_76 cb_50 ?_
            refine g_bipush (pc := 78) dX12_grows_78 cb_12 ?_
            refine g_iload_n (pc := 80) dX12_grows_80 3 rfl ?_
            refine g_imul (pc := 81) dX12_grows_81 ?_
            refine g_iadd (pc := 82) dX12_grows_82 ?_
            refine g_iload_n (pc := 83) dX12_grows_83 4 rfl ?_
            refine g_iadd (pc := 84) dX12_grows_84 ?_
            refine g_topi (fun x13 => ?_)
            refine g_dup2 (pc := 85) rfl rfl dX12_grows_85 ?_
            refine g_iald (pc := 86) dX12_grows_86 (fun x14 => ?_)
            refine g_iconst (pc := 87) dX12_grows_87 ci_1 ?_
            refine g_iadd (pc := 88) dX12_grows_88 ?_
            refine g_iast (pc := 89) dX12_grows_89 (fun h7 => ?_)
            refine g_lv [1, 2, 3, 4] rfl ?_
            exact hk90 h7
          · refine g_lv [1, 2, 3, 4] rfl ?_
            exact hk90 h5
      refine g_join (fun k => ∀ (h8 : aH), J_X12_grows l E n0 m0 45 [(0, .ref (e_z E + x1)), (1, .int x2), (2, .int x3), (3, .int x6)] [] h8 (k h8)) (fun h8 => ?_) (fun k45 hk45 => ?_)
      · refine g_iconst (pc := 45) dX12_grows_45 ci_0 ?_
        exact hk46 (0 : Int32) h8
      refine g_icmpeq (pc := 22) (tgt := 45) dX12_grows_22 rfl ?_ ?_
      · exact hk45 h4
      · refine g_iload_n (pc := 25) dX12_grows_25 1 rfl ?_
        refine g_iload_n (pc := 26) dX12_grows_26 2 rfl ?_
        refine g_ishr (pc := 27) dX12_grows_27 ?_
        refine g_iconst (pc := 28) dX12_grows_28 ci_1 ?_
        refine g_iand (pc := 29) dX12_grows_29 ?_
        refine g_ifeq (pc := 30) (tgt := 45) dX12_grows_30 rfl ?_ ?_
        · exact hk45 h4
        · refine g_iload_n (pc := 33) dX12_grows_33 1 rfl ?_
          refine g_iload_n (pc := 34) dX12_grows_34 3 rfl ?_
          refine g_ishr (pc := 35) dX12_grows_35 ?_
          refine g_iconst (pc := 36) dX12_grows_36 ci_1 ?_
          refine g_iand (pc := 37) dX12_grows_37 ?_
          refine g_ifeq (pc := 38) (tgt := 45) dX12_grows_38 rfl ?_ ?_
          · exact hk45 h4
          · refine g_iconst (pc := 41) dX12_grows_41 ci_1 ?_
            refine g_goto (pc := 42) (tgt := 46) dX12_grows_42 rfl ?_
            exact hk46 (1 : Int32) h4
    · refine g_lv [0, 1, 2] rfl ?_
      exact hk96 h4
  · refine g_lv [] rfl ?_
    exact hk102 h2
theorem p_X12_grows {l : Launch} {E : aE} (hl : l.stackTraces = false) (x1 : Nat) (x2 : Int32) (h0 : aH) : MO (fun (_ : Unit) => .inl none) l E yX12_grows (.code yX12_grows cX12_grows 5 none) 0 0 [.ref (e_z E + x1), .int x2] h0 (m_X12_grows x1 x2 h0) := g_met hl (by decide +kernel) (Nat.le_of_ble_eq_true rfl) (b_X12_grows hl _ _ x1 x2 h0)
theorem dX12_minute_0 : decode cX12_minute 0 = .ok (.aload_n 0, 1) := by decide +kernel
theorem dX12_minute_1 : decode cX12_minute 1 = .ok (.getfield 7, 3) := by decide +kernel
theorem dX12_minute_4 : decode cX12_minute 4 = .ok (.iconst 0, 1) := by decide +kernel
theorem dX12_minute_5 : decode cX12_minute 5 = .ok (.iaload, 1) := by decide +kernel
theorem dX12_minute_6 : decode cX12_minute 6 = .ok (.istore_n 1, 1) := by decide +kernel
theorem dX12_minute_7 : decode cX12_minute 7 = .ok (.iconst 0, 1) := by decide +kernel
theorem dX12_minute_8 : decode cX12_minute 8 = .ok (.istore_n 2, 1) := by decide +kernel
theorem dX12_minute_9 : decode cX12_minute 9 = .ok (.iload_n 2, 1) := by decide +kernel
theorem dX12_minute_10 : decode cX12_minute 10 = .ok (.aload_n 0, 1) := by decide +kernel
theorem dX12_minute_11 : decode cX12_minute 11 = .ok (.getfield 325, 3) := by decide +kernel
theorem dX12_minute_14 : decode cX12_minute 14 = .ok (.if_icmp .ge 71, 3) := by decide +kernel
theorem dX12_minute_17 : decode cX12_minute 17 = .ok (.aload_n 0, 1) := by decide +kernel
theorem dX12_minute_18 : decode cX12_minute 18 = .ok (.iload_n 1, 1) := by decide +kernel
theorem dX12_minute_19 : decode cX12_minute 19 = .ok (.invokevirtual 347, 3) := by decide +kernel
theorem dX12_minute_22 : decode cX12_minute 22 = .ok (.ifCond .eq 63, 3) := by decide +kernel
theorem dX12_minute_25 : decode cX12_minute 25 = .ok (.aload_n 0, 1) := by decide +kernel
theorem dX12_minute_26 : decode cX12_minute 26 = .ok (.getfield 7, 3) := by decide +kernel
theorem dX12_minute_29 : decode cX12_minute 29 = .ok (.bipush 14, 2) := by decide +kernel
theorem dX12_minute_31 : decode cX12_minute 31 = .ok (.iload_n 2, 1) := by decide +kernel
theorem dX12_minute_32 : decode cX12_minute 32 = .ok (.iadd, 1) := by decide +kernel
theorem dX12_minute_33 : decode cX12_minute 33 = .ok (.iaload, 1) := by decide +kernel
theorem dX12_minute_34 : decode cX12_minute 34 = .ok (.iload_n 1, 1) := by decide +kernel
theorem dX12_minute_35 : decode cX12_minute 35 = .ok (.if_icmp .le 7, 3) := by decide +kernel
theorem dX12_minute_38 : decode cX12_minute 38 = .ok (.iconst 1, 1) := by decide +kernel
theorem dX12_minute_39 : decode cX12_minute 39 = .ok (.goto 4, 3) := by decide +kernel
theorem dX12_minute_42 : decode cX12_minute 42 = .ok (.iconst 0, 1) := by decide +kernel
theorem dX12_minute_43 : decode cX12_minute 43 = .ok (.istore_n 3, 1) := by decide +kernel
theorem dX12_minute_44 : decode cX12_minute 44 = .ok (.aload_n 0, 1) := by decide +kernel
theorem dX12_minute_45 : decode cX12_minute 45 = .ok (.getfield 7, 3) := by decide +kernel
theorem dX12_minute_48 : decode cX12_minute 48 = .ok (.iconst 2, 1) := by decide +kernel
theorem dX12_minute_49 : decode cX12_minute 49 = .ok (.iload_n 2, 1) := by decide +kernel
theorem dX12_minute_50 : decode cX12_minute 50 = .ok (.iadd, 1) := by decide +kernel
theorem dX12_minute_51 : decode cX12_minute 51 = .ok (.dup2, 1) := by decide +kernel
theorem dX12_minute_52 : decode cX12_minute 52 = .ok (.iaload, 1) := by decide +kernel
theorem dX12_minute_53 : decode cX12_minute 53 = .ok (.iload_n 3, 1) := by decide +kernel
theorem dX12_minute_54 : decode cX12_minute 54 = .ok (.ifCond .eq 7, 3) := by decide +kernel
theorem dX12_minute_57 : decode cX12_minute 57 = .ok (.iconst 1, 1) := by decide +kernel
theorem dX12_minute_58 : decode cX12_minute 58 = .ok (.goto 19, 3) := by decide +kernel
theorem dX12_minute_61 : decode cX12_minute 61 = .ok (.aload_n 0, 1) := by decide +kernel
theorem dX12_minute_62 : decode cX12_minute 62 = .ok (.getfield 7, 3) := by decide +kernel
theorem dX12_minute_65 : decode cX12_minute 65 = .ok (.iconst 2, 1) := by decide +kernel
theorem dX12_minute_66 : decode cX12_minute 66 = .ok (.iload_n 2, 1) := by decide +kernel
theorem dX12_minute_67 : decode cX12_minute 67 = .ok (.iadd, 1) := by decide +kernel
theorem dX12_minute_68 : decode cX12_minute 68 = .ok (.iaload, 1) := by decide +kernel
theorem dX12_minute_69 : decode cX12_minute 69 = .ok (.ifCond .le 7, 3) := by decide +kernel
theorem dX12_minute_72 : decode cX12_minute 72 = .ok (.iconst (-1), 1) := by decide +kernel
theorem dX12_minute_73 : decode cX12_minute 73 = .ok (.goto 4, 3) := by decide +kernel
theorem dX12_minute_76 : decode cX12_minute 76 = .ok (.iconst 0, 1) := by decide +kernel
theorem dX12_minute_77 : decode cX12_minute 77 = .ok (.iadd, 1) := by decide +kernel
theorem dX12_minute_78 : decode cX12_minute 78 = .ok (.iastore, 1) := by decide +kernel
theorem dX12_minute_79 : decode cX12_minute 79 = .ok (.iinc 2 1, 3) := by decide +kernel
theorem dX12_minute_82 : decode cX12_minute 82 = .ok (.goto (-73), 3) := by decide +kernel
theorem dX12_minute_85 : decode cX12_minute 85 = .ok (.aload_n 0, 1) := by decide +kernel
theorem dX12_minute_86 : decode cX12_minute 86 = .ok (.getfield 7, 3) := by decide +kernel
theorem dX12_minute_89 : decode cX12_minute 89 = .ok (.iconst 0, 1) := by decide +kernel
theorem dX12_minute_90 : decode cX12_minute 90 = .ok (.iload_n 1, 1) := by decide +kernel
theorem dX12_minute_91 : decode cX12_minute 91 = .ok (.iconst 1, 1) := by decide +kernel
theorem dX12_minute_92 : decode cX12_minute 92 = .ok (.iadd, 1) := by decide +kernel
theorem dX12_minute_93 : decode cX12_minute 93 = .ok (.iastore, 1) := by decide +kernel
theorem dX12_minute_94 : decode cX12_minute 94 = .ok (.iconst 0, 1) := by decide +kernel
theorem dX12_minute_95 : decode cX12_minute 95 = .ok (.istore_n 2, 1) := by decide +kernel
theorem dX12_minute_96 : decode cX12_minute 96 = .ok (.iconst 0, 1) := by decide +kernel
theorem dX12_minute_97 : decode cX12_minute 97 = .ok (.istore_n 3, 1) := by decide +kernel
theorem dX12_minute_98 : decode cX12_minute 98 = .ok (.iload_n 3, 1) := by decide +kernel
theorem dX12_minute_99 : decode cX12_minute 99 = .ok (.aload_n 0, 1) := by decide +kernel
theorem dX12_minute_100 : decode cX12_minute 100 = .ok (.getfield 331, 3) := by decide +kernel
theorem dX12_minute_103 : decode cX12_minute 103 = .ok (.if_icmp .ge 74, 3) := by decide +kernel
theorem dX12_minute_106 : decode cX12_minute 106 = .ok (.sipush 284, 3) := by decide +kernel
theorem dX12_minute_109 : decode cX12_minute 109 = .ok (.iconst 3, 1) := by decide +kernel
theorem dX12_minute_110 : decode cX12_minute 110 = .ok (.iload_n 3, 1) := by decide +kernel
theorem dX12_minute_111 : decode cX12_minute 111 = .ok (.imul, 1) := by decide +kernel
theorem dX12_minute_112 : decode cX12_minute 112 = .ok (.iadd, 1) := by decide +kernel
theorem dX12_minute_113 : decode cX12_minute 113 = .ok (.istore 4, 2) := by decide +kernel
theorem dX12_minute_115 : decode cX12_minute 115 = .ok (.aload_n 0, 1) := by decide +kernel
theorem dX12_minute_116 : decode cX12_minute 116 = .ok (.getfield 7, 3) := by decide +kernel
theorem dX12_minute_119 : decode cX12_minute 119 = .ok (.iload 4, 2) := by decide +kernel
theorem dX12_minute_121 : decode cX12_minute 121 = .ok (.iconst 2, 1) := by decide +kernel
theorem dX12_minute_122 : decode cX12_minute 122 = .ok (.iadd, 1) := by decide +kernel
theorem dX12_minute_123 : decode cX12_minute 123 = .ok (.iaload, 1) := by decide +kernel
theorem dX12_minute_124 : decode cX12_minute 124 = .ok (.ifCond .eq 47, 3) := by decide +kernel
theorem dX12_minute_127 : decode cX12_minute 127 = .ok (.aload_n 0, 1) := by decide +kernel
theorem dX12_minute_128 : decode cX12_minute 128 = .ok (.getfield 7, 3) := by decide +kernel
theorem dX12_minute_131 : decode cX12_minute 131 = .ok (.iload 4, 2) := by decide +kernel
theorem dX12_minute_133 : decode cX12_minute 133 = .ok (.iconst 0, 1) := by decide +kernel
theorem dX12_minute_134 : decode cX12_minute 134 = .ok (.iadd, 1) := by decide +kernel
theorem dX12_minute_135 : decode cX12_minute 135 = .ok (.iaload, 1) := by decide +kernel
theorem dX12_minute_136 : decode cX12_minute 136 = .ok (.aload_n 0, 1) := by decide +kernel
theorem dX12_minute_137 : decode cX12_minute 137 = .ok (.getfield 7, 3) := by decide +kernel
theorem dX12_minute_140 : decode cX12_minute 140 = .ok (.iconst 0, 1) := by decide +kernel
theorem dX12_minute_141 : decode cX12_minute 141 = .ok (.iaload, 1) := by decide +kernel
theorem dX12_minute_142 : decode cX12_minute 142 = .ok (.if_icmp .ne 29, 3) := by decide +kernel
theorem dX12_minute_145 : decode cX12_minute 145 = .ok (.iinc 2 1, 3) := by decide +kernel
theorem dX12_minute_148 : decode cX12_minute 148 = .ok (.aload_n 0, 1) := by decide +kernel
theorem dX12_minute_149 : decode cX12_minute 149 = .ok (.aload_n 0, 1) := by decide +kernel
theorem dX12_minute_150 : decode cX12_minute 150 = .ok (.getfield 7, 3) := by decide +kernel
theorem dX12_minute_153 : decode cX12_minute 153 = .ok (.iload 4, 2) := by decide +kernel
theorem dX12_minute_155 : decode cX12_minute 155 = .ok (.iconst 2, 1) := by decide +kernel
theorem dX12_minute_156 : decode cX12_minute 156 = .ok (.iadd, 1) := by decide +kernel
theorem dX12_minute_157 : decode cX12_minute 157 = .ok (.iaload, 1) := by decide +kernel
theorem dX12_minute_158 : decode cX12_minute 158 = .ok (.invokevirtual 350, 3) := by decide +kernel
theorem dX12_minute_161 : decode cX12_minute 161 = .ok (.aload_n 0, 1) := by decide +kernel
theorem dX12_minute_162 : decode cX12_minute 162 = .ok (.getfield 7, 3) := by decide +kernel
theorem dX12_minute_165 : decode cX12_minute 165 = .ok (.iload 4, 2) := by decide +kernel
theorem dX12_minute_167 : decode cX12_minute 167 = .ok (.iconst 2, 1) := by decide +kernel
theorem dX12_minute_168 : decode cX12_minute 168 = .ok (.iadd, 1) := by decide +kernel
theorem dX12_minute_169 : decode cX12_minute 169 = .ok (.iconst 0, 1) := by decide +kernel
theorem dX12_minute_170 : decode cX12_minute 170 = .ok (.iastore, 1) := by decide +kernel
theorem dX12_minute_171 : decode cX12_minute 171 = .ok (.iinc 3 1, 3) := by decide +kernel
theorem dX12_minute_174 : decode cX12_minute 174 = .ok (.goto (-76), 3) := by decide +kernel
theorem dX12_minute_177 : decode cX12_minute 177 = .ok (.iconst 0, 1) := by decide +kernel
theorem dX12_minute_178 : decode cX12_minute 178 = .ok (.istore_n 3, 1) := by decide +kernel
theorem dX12_minute_179 : decode cX12_minute 179 = .ok (.iload_n 3, 1) := by decide +kernel
theorem dX12_minute_180 : decode cX12_minute 180 = .ok (.aload_n 0, 1) := by decide +kernel
theorem dX12_minute_181 : decode cX12_minute 181 = .ok (.getfield 328, 3) := by decide +kernel
theorem dX12_minute_184 : decode cX12_minute 184 = .ok (.if_icmp .ge 81, 3) := by decide +kernel
theorem dX12_minute_187 : decode cX12_minute 187 = .ok (.sipush 194, 3) := by decide +kernel
theorem dX12_minute_190 : decode cX12_minute 190 = .ok (.bipush 15, 2) := by decide +kernel
theorem dX12_minute_192 : decode cX12_minute 192 = .ok (.iload_n 3, 1) := by decide +kernel
theorem dX12_minute_193 : decode cX12_minute 193 = .ok (.imul, 1) := by decide +kernel
theorem dX12_minute_194 : decode cX12_minute 194 = .ok (.iadd, 1) := by decide +kernel
theorem dX12_minute_195 : decode cX12_minute 195 = .ok (.istore 4, 2) := by decide +kernel
theorem dX12_minute_197 : decode cX12_minute 197 = .ok (.aload_n 0, 1) := by decide +kernel
theorem dX12_minute_198 : decode cX12_minute 198 = .ok (.getfield 7, 3) := by decide +kernel
theorem dX12_minute_201 : decode cX12_minute 201 = .ok (.iload 4, 2) := by decide +kernel
theorem dX12_minute_203 : decode cX12_minute 203 = .ok (.bipush 8, 2) := by decide +kernel
theorem dX12_minute_205 : decode cX12_minute 205 = .ok (.iadd, 1) := by decide +kernel
theorem dX12_minute_206 : decode cX12_minute 206 = .ok (.iaload, 1) := by decide +kernel
theorem dX12_minute_207 : decode cX12_minute 207 = .ok (.ifCond .le 52, 3) := by decide +kernel
theorem dX12_minute_210 : decode cX12_minute 210 = .ok (.aload_n 0, 1) := by decide +kernel
theorem dX12_minute_211 : decode cX12_minute 211 = .ok (.getfield 7, 3) := by decide +kernel
theorem dX12_minute_214 : decode cX12_minute 214 = .ok (.iload 4, 2) := by decide +kernel
theorem dX12_minute_216 : decode cX12_minute 216 = .ok (.bipush 12, 2) := by decide +kernel
theorem dX12_minute_218 : decode cX12_minute 218 = .ok (.iadd, 1) := by decide +kernel
theorem dX12_minute_219 : decode cX12_minute 219 = .ok (.aload_n 0, 1) := by decide +kernel
theorem dX12_minute_220 : decode cX12_minute 220 = .ok (.getfield 7, 3) := by decide +kernel
theorem dX12_minute_223 : decode cX12_minute 223 = .ok (.iload 4, 2) := by decide +kernel
theorem dX12_minute_225 : decode cX12_minute 225 = .ok (.bipush 8, 2) := by decide +kernel
theorem dX12_minute_227 : decode cX12_minute 227 = .ok (.iadd, 1) := by decide +kernel
theorem dX12_minute_228 : decode cX12_minute 228 = .ok (.iaload, 1) := by decide +kernel
theorem dX12_minute_229 : decode cX12_minute 229 = .ok (.iadd, 1) := by decide +kernel
theorem dX12_minute_230 : decode cX12_minute 230 = .ok (.iconst 1, 1) := by decide +kernel
theorem dX12_minute_231 : decode cX12_minute 231 = .ok (.isub, 1) := by decide +kernel
theorem dX12_minute_232 : decode cX12_minute 232 = .ok (.iaload, 1) := by decide +kernel
theorem dX12_minute_233 : decode cX12_minute 233 = .ok (.aload_n 0, 1) := by decide +kernel
theorem dX12_minute_234 : decode cX12_minute 234 = .ok (.getfield 7, 3) := by decide +kernel
theorem dX12_minute_237 : decode cX12_minute 237 = .ok (.iconst 0, 1) := by decide +kernel
theorem dX12_minute_238 : decode cX12_minute 238 = .ok (.iaload, 1) := by decide +kernel
theorem dX12_minute_239 : decode cX12_minute 239 = .ok (.if_icmp .gt 20, 3) := by decide +kernel
theorem dX12_minute_242 : decode cX12_minute 242 = .ok (.aload_n 0, 1) := by decide +kernel
theorem dX12_minute_243 : decode cX12_minute 243 = .ok (.getfield 7, 3) := by decide +kernel
theorem dX12_minute_246 : decode cX12_minute 246 = .ok (.iload 4, 2) := by decide +kernel
theorem dX12_minute_248 : decode cX12_minute 248 = .ok (.bipush 8, 2) := by decide +kernel
theorem dX12_minute_250 : decode cX12_minute 250 = .ok (.iadd, 1) := by decide +kernel
theorem dX12_minute_251 : decode cX12_minute 251 = .ok (.dup2, 1) := by decide +kernel
theorem dX12_minute_252 : decode cX12_minute 252 = .ok (.iaload, 1) := by decide +kernel
theorem dX12_minute_253 : decode cX12_minute 253 = .ok (.iconst 1, 1) := by decide +kernel
theorem dX12_minute_254 : decode cX12_minute 254 = .ok (.isub, 1) := by decide +kernel
theorem dX12_minute_255 : decode cX12_minute 255 = .ok (.iastore, 1) := by decide +kernel
theorem dX12_minute_256 : decode cX12_minute 256 = .ok (.goto (-59), 3) := by decide +kernel
theorem dX12_minute_259 : decode cX12_minute 259 = .ok (.iinc 3 1, 3) := by decide +kernel
theorem dX12_minute_262 : decode cX12_minute 262 = .ok (.goto (-83), 3) := by decide +kernel
theorem dX12_minute_265 : decode cX12_minute 265 = .ok (.iload_n 2, 1) := by decide +kernel
theorem dX12_minute_266 : decode cX12_minute 266 = .ok (.ireturn, 1) := by decide +kernel
abbrev M_X12_minute : aM := (yX12_minute.cls, cX12_minute, 5, (some .int), [], yX12_minute.name == "<init>")
abbrev J_X12_minute (l : Launch) (E : aE) (n0 m0 : Nat) := GG (fun (v : Int32) => .inl (some (.int v))) l E M_X12_minute 1 24 n0 m0
theorem b_X12_minute {l : Launch} {E : aE} (hl : l.stackTraces = false) (n0 m0 : Nat) (x1 : Nat) (h0 : aH) : J_X12_minute l E n0 m0 0 [(0, .ref (e_z E + x1))] [] h0 (m_X12_minute x1 h0) := by
  unfold m_X12_minute
  refine g_aload_n (pc := 0) dX12_minute_0 0 rfl ?_
  refine g_getr (pc := 1) cl12 (Nat.le_of_ble_eq_true rfl) fk1552 (fun _ _ _ => rfl) dX12_minute_1 (fun x2 => ?_)
  refine g_iconst (pc := 4) dX12_minute_4 ci_0 ?_
  refine g_iald (pc := 5) dX12_minute_5 (fun x3 => ?_)
  refine g_istore_n (pc := 6) (lv' := [(1, .int x3), (0, .ref (e_z E + x1))]) dX12_minute_6 (Nat.le_of_ble_eq_true rfl) rfl ?_
  refine g_iconst (pc := 7) dX12_minute_7 ci_0 ?_
  refine g_istore_n (pc := 8) (lv' := [(2, .int (0 : Int32)), (1, .int x3), (0, .ref (e_z E + x1))]) dX12_minute_8 (Nat.le_of_ble_eq_true rfl) rfl ?_
  refine g_join (fun k => ∀ (h1 : aH), J_X12_minute l E n0 m0 85 [(0, .ref (e_z E + x1)), (1, .int x3)] [] h1 (k h1)) (fun h1 => ?_) (fun k85 hk85 => ?_)
  · refine g_aload_n (pc := 85) dX12_minute_85 0 rfl ?_
    refine g_getr (pc := 86) cl12 (Nat.le_of_ble_eq_true rfl) fk1552 (fun _ _ _ => rfl) dX12_minute_86 (fun x4 => ?_)
    refine g_iconst (pc := 89) dX12_minute_89 ci_0 ?_
    refine g_iload_n (pc := 90) dX12_minute_90 1 rfl ?_
    refine g_iconst (pc := 91) dX12_minute_91 ci_1 ?_
    refine g_iadd (pc := 92) dX12_minute_92 ?_
    refine g_iast (pc := 93) dX12_minute_93 (fun h2 => ?_)
    refine g_iconst (pc := 94) dX12_minute_94 ci_0 ?_
    refine g_istore_n (pc := 95) (lv' := [(2, .int (0 : Int32)), (0, .ref (e_z E + x1)), (1, .int x3)]) dX12_minute_95 (Nat.le_of_ble_eq_true rfl) rfl ?_
    refine g_iconst (pc := 96) dX12_minute_96 ci_0 ?_
    refine g_istore_n (pc := 97) (lv' := [(3, .int (0 : Int32)), (2, .int (0 : Int32)), (0, .ref (e_z E + x1)), (1, .int x3)]) dX12_minute_97 (Nat.le_of_ble_eq_true rfl) rfl ?_
    refine g_join (fun k => ∀ (x5 : Int32) (h3 : aH), J_X12_minute l E n0 m0 177 [(0, .ref (e_z E + x1)), (2, .int x5)] [] h3 (k x5 h3)) (fun x5 h3 => ?_) (fun k177 hk177 => ?_)
    · refine g_iconst (pc := 177) dX12_minute_177 ci_0 ?_
      refine g_istore_n (pc := 178) (lv' := [(3, .int (0 : Int32)), (0, .ref (e_z E + x1)), (2, .int x5)]) dX12_minute_178 (Nat.le_of_ble_eq_true rfl) rfl ?_
      refine g_join (fun k => ∀ (h4 : aH), J_X12_minute l E n0 m0 265 [(2, .int x5)] [] h4 (k h4)) (fun h4 => ?_) (fun k265 hk265 => ?_)
      · refine g_iload_n (pc := 265) dX12_minute_265 0 rfl ?_
        exact g_ret (pc := 266) rfl (isRet_i _) dX12_minute_266 rfl
      refine g_lv [1, 2, 0] rfl ?_
      refine g_loop1 (F := (m_X12_minute_L179 x1 k265)) (fun x6 => [(0, .ref (e_z E + x1)), (2, .int x5), (3, .int x6)]) (fun r179 hr179 x6 h5 => ?_) _ _ _
      unfold m_X12_minute_L179
      refine g_iload_n (pc := 179) dX12_minute_179 2 rfl ?_
      refine g_aload_n (pc := 180) dX12_minute_180 0 rfl ?_
      refine g_geti (pc := 181) cl12 (Nat.le_of_ble_eq_true rfl) fk1560 (fun _ _ _ => rfl) dX12_minute_181 (fun x7 => ?_)
      refine g_icmpge (pc := 184) (tgt := 265) dX12_minute_184 rfl ?_ ?_
      · refine g_sipush (pc := 187) dX12_minute_187 cs_194 ?_
        refine g_bipush (pc := 190) dX12_minute_190 cb_15 ?_
        refine g_iload_n (pc := 192) dX12_minute_192 2 rfl ?_
        refine g_imul (pc := 193) dX12_minute_193 ?_
        refine g_iadd (pc := 194) dX12_minute_194 ?_
        refine g_topi (fun x8 => ?_)
        refine g_istore (pc := 195) (lv' := [(4, .int x8), (0, .ref (e_z E + x1)), (2, .int x5), (3, .int x6)]) dX12_minute_195 (Nat.le_of_ble_eq_true rfl) rfl ?_
        refine g_join (fun k => ∀ (h6 : aH), J_X12_minute l E n0 m0 259 [(0, .ref (e_z E + x1)), (2, .int x5), (3, .int x6)] [] h6 (k h6)) (fun h6 => ?_) (fun k259 hk259 => ?_)
        · refine g_iincN (pc := 259) dX12_minute_259 2 rfl ci_1 (Nat.le_of_ble_eq_true rfl) (fun x9 => ?_)
          refine g_lvr (lv' := [(3, .int x9), (0, .ref (e_z E + x1)), (2, .int x5)]) rfl ?_
          refine g_goto (pc := 262) (tgt := 179) dX12_minute_262 rfl ?_
          refine g_lv [1, 2, 0] rfl ?_
          exact hr179 x9 h6
        refine g_lv [1, 2, 3, 0] rfl ?_
        refine g_loop0 (F := (m_X12_minute_L197 x1 x8 k259)) ([(0, .ref (e_z E + x1)), (2, .int x5), (3, .int x6), (4, .int x8)]) (fun r197 hr197 h7 => ?_) _ _
        unfold m_X12_minute_L197
        refine g_aload_n (pc := 197) dX12_minute_197 0 rfl ?_
        refine g_getr (pc := 198) cl12 (Nat.le_of_ble_eq_true rfl) fk1552 (fun _ _ _ => rfl) dX12_minute_198 (fun x10 => ?_)
        refine g_iload (pc := 201) dX12_minute_201 3 rfl ?_
        refine g_bipush (pc := 203) dX12_minute_203 cb_8 ?_
        refine g_iadd (pc := 205) dX12_minute_205 ?_
        refine g_iald (pc := 206) dX12_minute_206 (fun x11 => ?_)
        refine g_ifle (pc := 207) (tgt := 259) dX12_minute_207 rfl ?_ ?_
        · refine g_lv [0, 1, 2] rfl ?_
          exact hk259 h7
        · refine g_aload_n (pc := 210) dX12_minute_210 0 rfl ?_
          refine g_getr (pc := 211) cl12 (Nat.le_of_ble_eq_true rfl) fk1552 (fun _ _ _ => rfl) dX12_minute_211 (fun x12 => ?_)
          refine g_iload (pc := 214) dX12_minute_214 3 rfl ?_
          refine g_bipush (pc := 216) dX12_minute_216 cb_12 ?_
          refine g_iadd (pc := 218) dX12_minute_218 ?_
          refine g_aload_n (pc := 219) dX12_minute_219 0 rfl ?_
          refine g_getr (pc := 220) cl12 (Nat.le_of_ble_eq_true rfl) fk1552 (fun _ _ _ => rfl) dX12_minute_220 (fun x13 => ?_)
          refine g_iload (pc := 223) dX12_minute_223 3 rfl ?_
          refine g_bipush (pc := 225) dX12_minute_225 cb_8 ?_
          refine g_iadd (pc := 227) dX12_minute_227 ?_
          refine g_iald (pc := 228) dX12_minute_228 (fun x14 => ?_)
          refine g_iadd (pc := 229) dX12_minute_229 ?_
          refine g_iconst (pc := 230) dX12_minute_230 ci_1 ?_
          refine g_isub (pc := 231) dX12_minute_231 ?_
          refine g_iald (pc := 232) dX12_minute_232 (fun x15 => ?_)
          refine g_aload_n (pc := 233) dX12_minute_233 0 rfl ?_
          refine g_getr (pc := 234) cl12 (Nat.le_of_ble_eq_true rfl) fk1552 (fun _ _ _ => rfl) dX12_minute_234 (fun x16 => ?_)
          refine g_iconst (pc := 237) dX12_minute_237 ci_0 ?_
          refine g_iald (pc := 238) dX12_minute_238 (fun x17 => ?_)
          refine g_icmpgt (pc := 239) (tgt := 259) dX12_minute_239 rfl ?_ ?_
          · refine g_aload_n (pc := 242) dX12_minute_242 0 rfl ?_
            refine g_getr (pc := 243) cl12 (Nat.le_of_ble_eq_true rfl) fk1552 (fun _ _ _ => rfl) dX12_minute_243 (fun x18 => ?_)
            refine g_iload (pc := 246) dX12_minute_246 3 rfl ?_
            refine g_bipush (pc := 248) dX12_minute_248 cb_8 ?_
            refine g_iadd (pc := 250) dX12_minute_250 ?_
            refine g_topi (fun x19 => ?_)
            refine g_dup2 (pc := 251) rfl rfl dX12_minute_251 ?_
            refine g_iald (pc := 252) dX12_minute_252 (fun x20 => ?_)
            refine g_iconst (pc := 253) dX12_minute_253 ci_1 ?_
            refine g_isub (pc := 254) dX12_minute_254 ?_
            refine g_iast (pc := 255) dX12_minute_255 (fun h8 => ?_)
            refine g_goto (pc := 256) (tgt := 197) dX12_minute_256 rfl ?_
            exact hr197 h8
          · refine g_lv [0, 1, 2] rfl ?_
            exact hk259 h7
      · refine g_lv [1] rfl ?_
        exact hk265 h5
    refine g_lv [2, 1, 0] rfl ?_
    refine g_loop2 (F := (m_X12_minute_L98 x1 k177)) (fun x21 x22 => [(0, .ref (e_z E + x1)), (2, .int x21), (3, .int x22)]) (fun r98 hr98 x21 x22 h9 => ?_) _ _ _ _
    unfold m_X12_minute_L98
    refine g_iload_n (pc := 98) dX12_minute_98 2 rfl ?_
    refine g_aload_n (pc := 99) dX12_minute_99 0 rfl ?_
    refine g_geti (pc := 100) cl12 (Nat.le_of_ble_eq_true rfl) fk1561 (fun _ _ _ => rfl) dX12_minute_100 (fun x23 => ?_)
    refine g_icmpge (pc := 103) (tgt := 177) dX12_minute_103 rfl ?_ ?_
    · refine g_sipush (pc := 106) dX12_minute_106 cs_284 ?_
      refine g_iconst (pc := 109) dX12_minute_109 ci_3 ?_
      refine g_iload_n (pc := 110) dX12_minute_110 2 rfl ?_
      refine g_imul (pc := 111) dX12_minute_111 ?_
      refine g_iadd (pc := 112) dX12_minute_112 ?_
      refine g_topi (fun x24 => ?_)
      refine g_istore (pc := 113) (lv' := [(4, .int x24), (0, .ref (e_z E + x1)), (2, .int x21), (3, .int x22)]) dX12_minute_113 (Nat.le_of_ble_eq_true rfl) rfl ?_
      refine g_aload_n (pc := 115) dX12_minute_115 1 rfl ?_
      refine g_getr (pc := 116) cl12 (Nat.le_of_ble_eq_true rfl) fk1552 (fun _ _ _ => rfl) dX12_minute_116 (fun x25 => ?_)
      refine g_iload (pc := 119) dX12_minute_119 0 rfl ?_
      refine g_iconst (pc := 121) dX12_minute_121 ci_2 ?_
      refine g_iadd (pc := 122) dX12_minute_122 ?_
      refine g_iald (pc := 123) dX12_minute_123 (fun x26 => ?_)
      refine g_join (fun k => ∀ (x27 : Int32) (h10 : aH), J_X12_minute l E n0 m0 171 [(0, .ref (e_z E + x1)), (2, .int x27), (3, .int x22)] [] h10 (k x27 h10)) (fun x27 h10 => ?_) (fun k171 hk171 => ?_)
      · refine g_iincN (pc := 171) dX12_minute_171 2 rfl ci_1 (Nat.le_of_ble_eq_true rfl) (fun x28 => ?_)
        refine g_lvr (lv' := [(3, .int x28), (0, .ref (e_z E + x1)), (2, .int x27)]) rfl ?_
        refine g_goto (pc := 174) (tgt := 98) dX12_minute_174 rfl ?_
        refine g_lv [1, 2, 0] rfl ?_
        exact hr98 x27 x28 h10
      refine g_ifeq (pc := 124) (tgt := 171) dX12_minute_124 rfl ?_ ?_
      · refine g_lv [1, 2, 3] rfl ?_
        exact hk171 x21 h9
      · refine g_aload_n (pc := 127) dX12_minute_127 1 rfl ?_
        refine g_getr (pc := 128) cl12 (Nat.le_of_ble_eq_true rfl) fk1552 (fun _ _ _ => rfl) dX12_minute_128 (fun x29 => ?_)
        refine g_iload (pc := 131) dX12_minute_131 0 rfl ?_
        refine g_iconst (pc := 133) dX12_minute_133 ci_0 ?_
        refine g_iadd (pc := 134) dX12_minute_134 ?_
        refine g_iald (pc := 135) dX12_minute_135 (fun x30 => ?_)
        refine g_aload_n (pc := 136) dX12_minute_136 1 rfl ?_
        refine g_getr (pc := 137) cl12 (Nat.le_of_ble_eq_true rfl) fk1552 (fun _ _ _ => rfl) dX12_minute_137 (fun x31 => ?_)
        refine g_iconst (pc := 140) dX12_minute_140 ci_0 ?_
        refine g_iald (pc := 141) dX12_minute_141 (fun x32 => ?_)
        refine g_icmpne (pc := 142) (tgt := 171) dX12_minute_142 rfl ?_ ?_
        · refine g_iincN (pc := 145) dX12_minute_145 2 rfl ci_1 (Nat.le_of_ble_eq_true rfl) (fun x33 => ?_)
          refine g_lvr (lv' := [(2, .int x33), (4, .int x24), (0, .ref (e_z E + x1)), (3, .int x22)]) rfl ?_
          refine g_aload_n (pc := 148) dX12_minute_148 2 rfl ?_
          refine g_aload_n (pc := 149) dX12_minute_149 2 rfl ?_
          refine g_getr (pc := 150) cl12 (Nat.le_of_ble_eq_true rfl) fk1552 (fun _ _ _ => rfl) dX12_minute_150 (fun x34 => ?_)
          refine g_iload (pc := 153) dX12_minute_153 1 rfl ?_
          refine g_iconst (pc := 155) dX12_minute_155 ci_2 ?_
          refine g_iadd (pc := 156) dX12_minute_156 ?_
          refine g_iald (pc := 157) dX12_minute_157 (fun x35 => ?_)
          refine g_gS (fun hs => ?_)
          refine g_bRv (pc := 158) (c_V cl12 hs (p_X12_grows hl x1 x35 h9) y_X12_grows tw1952 dX12_minute_158 rfl (st := []) rfl (Nat.le_of_ble_eq_true rfl) (Nat.le_of_ble_eq_true rfl) (Nat.le_of_ble_eq_true rfl)) (fun _ h11 => ?_)
          refine g_aload_n (pc := 161) dX12_minute_161 2 rfl ?_
          refine g_getr (pc := 162) cl12 (Nat.le_of_ble_eq_true rfl) fk1552 (fun _ _ _ => rfl) dX12_minute_162 (fun x36 => ?_)
          refine g_iload (pc := 165) dX12_minute_165 1 rfl ?_
          refine g_iconst (pc := 167) dX12_minute_167 ci_2 ?_
          refine g_iadd (pc := 168) dX12_minute_168 ?_
          refine g_iconst (pc := 169) dX12_minute_169 ci_0 ?_
          refine g_iast (pc := 170) dX12_minute_170 (fun h12 => ?_)
          refine g_lv [2, 0, 3] rfl ?_
          exact hk171 x33 h12
        · refine g_lv [1, 2, 3] rfl ?_
          exact hk171 x21 h9
    · refine g_lv [0, 1] rfl ?_
      exact hk177 x21 h9
  refine g_lv [2, 1, 0] rfl ?_
  refine g_loop1 (F := (m_X12_minute_L9 x1 x3 k85)) (fun x37 => [(0, .ref (e_z E + x1)), (1, .int x3), (2, .int x37)]) (fun r9 hr9 x37 h13 => ?_) _ _ _
  unfold m_X12_minute_L9
  refine g_iload_n (pc := 9) dX12_minute_9 2 rfl ?_
  refine g_aload_n (pc := 10) dX12_minute_10 0 rfl ?_
  refine g_geti (pc := 11) cl12 (Nat.le_of_ble_eq_true rfl) fk1559 (fun _ _ _ => rfl) dX12_minute_11 (fun x38 => ?_)
  refine g_icmpge (pc := 14) (tgt := 85) dX12_minute_14 rfl ?_ ?_
  · refine g_aload_n (pc := 17) dX12_minute_17 0 rfl ?_
    refine g_iload_n (pc := 18) dX12_minute_18 1 rfl ?_
    refine g_gS (fun hs => ?_)
    refine g_bRi (pc := 19) (c_V cl12 hs (p_X12_isNight hl x1 x3 h13) y_X12_isNight tw1919 dX12_minute_19 rfl (st := []) rfl (Nat.le_of_ble_eq_true rfl) (Nat.le_of_ble_eq_true rfl) (Nat.le_of_ble_eq_true rfl)) (fun x39 h14 => ?_)
    refine g_ifeq (pc := 22) (tgt := 85) dX12_minute_22 rfl ?_ ?_
    · refine g_lv [0, 1] rfl ?_
      exact hk85 h14
    · refine g_aload_n (pc := 25) dX12_minute_25 0 rfl ?_
      refine g_getr (pc := 26) cl12 (Nat.le_of_ble_eq_true rfl) fk1552 (fun _ _ _ => rfl) dX12_minute_26 (fun x40 => ?_)
      refine g_bipush (pc := 29) dX12_minute_29 cb_14 ?_
      refine g_iload_n (pc := 31) dX12_minute_31 2 rfl ?_
      refine g_iadd (pc := 32) dX12_minute_32 ?_
      refine g_iald (pc := 33) dX12_minute_33 (fun x41 => ?_)
      refine g_iload_n (pc := 34) dX12_minute_34 1 rfl ?_
      refine g_join (fun k => ∀ (x42 : Int32) (h15 : aH), J_X12_minute l E n0 m0 43 [(0, .ref (e_z E + x1)), (1, .int x3), (2, .int x37)] [.int x42] h15 (k x42 h15)) (fun x42 h15 => ?_) (fun k43 hk43 => ?_)
      · refine g_istore_n (pc := 43) (lv' := [(3, .int x42), (0, .ref (e_z E + x1)), (1, .int x3), (2, .int x37)]) dX12_minute_43 (Nat.le_of_ble_eq_true rfl) rfl ?_
        refine g_aload_n (pc := 44) dX12_minute_44 1 rfl ?_
        refine g_getr (pc := 45) cl12 (Nat.le_of_ble_eq_true rfl) fk1552 (fun _ _ _ => rfl) dX12_minute_45 (fun x43 => ?_)
        refine g_iconst (pc := 48) dX12_minute_48 ci_2 ?_
        refine g_iload_n (pc := 49) dX12_minute_49 3 rfl ?_
        refine g_iadd (pc := 50) dX12_minute_50 ?_
        refine g_topi (fun x44 => ?_)
        refine g_dup2 (pc := 51) rfl rfl dX12_minute_51 ?_
        refine g_iald (pc := 52) dX12_minute_52 (fun x45 => ?_)
        refine g_iload_n (pc := 53) dX12_minute_53 0 rfl ?_
        refine g_join (fun k => ∀ (x46 : Int32) (h16 : aH), J_X12_minute l E n0 m0 77 [(0, .ref (e_z E + x1)), (1, .int x3), (2, .int x37)] [.int x46, .int x45, .int x44, .ref (e_z E + x43)] h16 (k x46 h16)) (fun x46 h16 => ?_) (fun k77 hk77 => ?_)
        · refine g_iadd (pc := 77) dX12_minute_77 ?_
          refine g_iast (pc := 78) dX12_minute_78 (fun h17 => ?_)
          refine g_iincN (pc := 79) dX12_minute_79 2 rfl ci_1 (Nat.le_of_ble_eq_true rfl) (fun x47 => ?_)
          refine g_lvr (lv' := [(2, .int x47), (0, .ref (e_z E + x1)), (1, .int x3)]) rfl ?_
          refine g_goto (pc := 82) (tgt := 9) dX12_minute_82 rfl ?_
          refine g_lv [1, 2, 0] rfl ?_
          exact hr9 x47 h17
        refine g_ifeq (pc := 54) (tgt := 61) dX12_minute_54 rfl ?_ ?_
        · refine g_aload_n (pc := 61) dX12_minute_61 1 rfl ?_
          refine g_getr (pc := 62) cl12 (Nat.le_of_ble_eq_true rfl) fk1552 (fun _ _ _ => rfl) dX12_minute_62 (fun x48 => ?_)
          refine g_iconst (pc := 65) dX12_minute_65 ci_2 ?_
          refine g_iload_n (pc := 66) dX12_minute_66 3 rfl ?_
          refine g_iadd (pc := 67) dX12_minute_67 ?_
          refine g_iald (pc := 68) dX12_minute_68 (fun x49 => ?_)
          refine g_ifle (pc := 69) (tgt := 76) dX12_minute_69 rfl ?_ ?_
          · refine g_iconst (pc := 76) dX12_minute_76 ci_0 ?_
            refine g_lv [1, 2, 3] rfl ?_
            exact hk77 (0 : Int32) h15
          · refine g_iconst (pc := 72) dX12_minute_72 ci_m1 ?_
            refine g_goto (pc := 73) (tgt := 77) dX12_minute_73 rfl ?_
            refine g_lv [1, 2, 3] rfl ?_
            exact hk77 (-1 : Int32) h15
        · refine g_iconst (pc := 57) dX12_minute_57 ci_1 ?_
          refine g_goto (pc := 58) (tgt := 77) dX12_minute_58 rfl ?_
          refine g_lv [1, 2, 3] rfl ?_
          exact hk77 (1 : Int32) h15
      refine g_icmple (pc := 35) (tgt := 42) dX12_minute_35 rfl ?_ ?_
      · refine g_iconst (pc := 42) dX12_minute_42 ci_0 ?_
        exact hk43 (0 : Int32) h14
      · refine g_iconst (pc := 38) dX12_minute_38 ci_1 ?_
        refine g_goto (pc := 39) (tgt := 43) dX12_minute_39 rfl ?_
        exact hk43 (1 : Int32) h14
  · refine g_lv [0, 1] rfl ?_
    exact hk85 h13
theorem p_X12_minute {l : Launch} {E : aE} (hl : l.stackTraces = false) (x1 : Nat) (h0 : aH) : MO (fun (v : Int32) => .inl (some (.int v))) l E yX12_minute (.code yX12_minute cX12_minute 5 (some .int)) 1 24 [.ref (e_z E + x1)] h0 (m_X12_minute x1 h0) := g_met hl (by decide +kernel) (Nat.le_of_ble_eq_true rfl) (b_X12_minute hl _ _ x1 h0)
theorem dX12_lays_0 : decode cX12_lays 0 = .ok (.iconst 0, 1) := by decide +kernel
theorem dX12_lays_1 : decode cX12_lays 1 = .ok (.istore_n 1, 1) := by decide +kernel
theorem dX12_lays_2 : decode cX12_lays 2 = .ok (.iload_n 1, 1) := by decide +kernel
theorem dX12_lays_3 : decode cX12_lays 3 = .ok (.sipush 603, 3) := by decide +kernel
theorem dX12_lays_6 : decode cX12_lays 6 = .ok (.if_icmp .ge 21, 3) := by decide +kernel
theorem dX12_lays_9 : decode cX12_lays 9 = .ok (.aload_n 0, 1) := by decide +kernel
theorem dX12_lays_10 : decode cX12_lays 10 = .ok (.getfield 19, 3) := by decide +kernel
theorem dX12_lays_13 : decode cX12_lays 13 = .ok (.iload_n 1, 1) := by decide +kernel
theorem dX12_lays_14 : decode cX12_lays 14 = .ok (.aload_n 0, 1) := by decide +kernel
theorem dX12_lays_15 : decode cX12_lays 15 = .ok (.getfield 7, 3) := by decide +kernel
theorem dX12_lays_18 : decode cX12_lays 18 = .ok (.iload_n 1, 1) := by decide +kernel
theorem dX12_lays_19 : decode cX12_lays 19 = .ok (.iaload, 1) := by decide +kernel
theorem dX12_lays_20 : decode cX12_lays 20 = .ok (.iastore, 1) := by decide +kernel
theorem dX12_lays_21 : decode cX12_lays 21 = .ok (.iinc 1 1, 3) := by decide +kernel
theorem dX12_lays_24 : decode cX12_lays 24 = .ok (.goto (-22), 3) := by decide +kernel
theorem dX12_lays_27 : decode cX12_lays 27 = .ok (.return_, 1) := by decide +kernel
abbrev M_X12_lays : aM := (yX12_lays.cls, cX12_lays, 2, none, [], yX12_lays.name == "<init>")
abbrev J_X12_lays (l : Launch) (E : aE) (n0 m0 : Nat) := GG (fun (_ : Unit) => .inl none) l E M_X12_lays 0 0 n0 m0
theorem b_X12_lays {l : Launch} {E : aE} (hl : l.stackTraces = false) (n0 m0 : Nat) (x1 : Nat) (h0 : aH) : J_X12_lays l E n0 m0 0 [(0, .ref (e_z E + x1))] [] h0 (m_X12_lays x1 h0) := by
  unfold m_X12_lays
  refine g_iconst (pc := 0) dX12_lays_0 ci_0 ?_
  refine g_istore_n (pc := 1) (lv' := [(1, .int (0 : Int32)), (0, .ref (e_z E + x1))]) dX12_lays_1 (Nat.le_of_ble_eq_true rfl) rfl ?_
  refine g_join (fun k => ∀ (h1 : aH), J_X12_lays l E n0 m0 27 [] [] h1 (k h1)) (fun h1 => ?_) (fun k27 hk27 => ?_)
  · exact g_ret (pc := 27) rfl isRet_v dX12_lays_27 rfl
  refine g_lv [1, 0] rfl ?_
  refine g_loop1 (F := (m_X12_lays_L2 x1 k27)) (fun x2 => [(0, .ref (e_z E + x1)), (1, .int x2)]) (fun r2 hr2 x2 h2 => ?_) _ _ _
  unfold m_X12_lays_L2
  refine g_iload_n (pc := 2) dX12_lays_2 1 rfl ?_
  refine g_sipush (pc := 3) dX12_lays_3 cs_603 ?_
  refine g_icmpge (pc := 6) (tgt := 27) dX12_lays_6 rfl ?_ ?_
  · refine g_aload_n (pc := 9) dX12_lays_9 0 rfl ?_
    refine g_getr (pc := 10) cl12 (Nat.le_of_ble_eq_true rfl) fk1555 (fun _ _ _ => rfl) dX12_lays_10 (fun x3 => ?_)
    refine g_iload_n (pc := 13) dX12_lays_13 1 rfl ?_
    refine g_aload_n (pc := 14) dX12_lays_14 0 rfl ?_
    refine g_getr (pc := 15) cl12 (Nat.le_of_ble_eq_true rfl) fk1552 (fun _ _ _ => rfl) dX12_lays_15 (fun x4 => ?_)
    refine g_iload_n (pc := 18) dX12_lays_18 1 rfl ?_
    refine g_iald (pc := 19) dX12_lays_19 (fun x5 => ?_)
    refine g_iast (pc := 20) dX12_lays_20 (fun h3 => ?_)
    refine g_iincN (pc := 21) dX12_lays_21 1 rfl ci_1 (Nat.le_of_ble_eq_true rfl) (fun x6 => ?_)
    refine g_lvr (lv' := [(1, .int x6), (0, .ref (e_z E + x1))]) rfl ?_
    refine g_goto (pc := 24) (tgt := 2) dX12_lays_24 rfl ?_
    refine g_lv [1, 0] rfl ?_
    exact hr2 x6 h3
  · refine g_lv [] rfl ?_
    exact hk27 h2
theorem p_X12_lays {l : Launch} {E : aE} (hl : l.stackTraces = false) (x1 : Nat) (h0 : aH) : MO (fun (_ : Unit) => .inl none) l E yX12_lays (.code yX12_lays cX12_lays 2 none) 0 0 [.ref (e_z E + x1)] h0 (m_X12_lays x1 h0) := g_met hl (by decide +kernel) (Nat.le_of_ble_eq_true rfl) (b_X12_lays hl _ _ x1 h0)
theorem dX12_takes_0 : decode cX12_takes 0 = .ok (.iconst 0, 1) := by decide +kernel
theorem dX12_takes_1 : decode cX12_takes 1 = .ok (.istore_n 1, 1) := by decide +kernel
theorem dX12_takes_2 : decode cX12_takes 2 = .ok (.iload_n 1, 1) := by decide +kernel
theorem dX12_takes_3 : decode cX12_takes 3 = .ok (.sipush 603, 3) := by decide +kernel
theorem dX12_takes_6 : decode cX12_takes 6 = .ok (.if_icmp .ge 21, 3) := by decide +kernel
theorem dX12_takes_9 : decode cX12_takes 9 = .ok (.aload_n 0, 1) := by decide +kernel
theorem dX12_takes_10 : decode cX12_takes 10 = .ok (.getfield 7, 3) := by decide +kernel
theorem dX12_takes_13 : decode cX12_takes 13 = .ok (.iload_n 1, 1) := by decide +kernel
theorem dX12_takes_14 : decode cX12_takes 14 = .ok (.aload_n 0, 1) := by decide +kernel
theorem dX12_takes_15 : decode cX12_takes 15 = .ok (.getfield 19, 3) := by decide +kernel
theorem dX12_takes_18 : decode cX12_takes 18 = .ok (.iload_n 1, 1) := by decide +kernel
theorem dX12_takes_19 : decode cX12_takes 19 = .ok (.iaload, 1) := by decide +kernel
theorem dX12_takes_20 : decode cX12_takes 20 = .ok (.iastore, 1) := by decide +kernel
theorem dX12_takes_21 : decode cX12_takes 21 = .ok (.iinc 1 1, 3) := by decide +kernel
theorem dX12_takes_24 : decode cX12_takes 24 = .ok (.goto (-22), 3) := by decide +kernel
theorem dX12_takes_27 : decode cX12_takes 27 = .ok (.return_, 1) := by decide +kernel
abbrev M_X12_takes : aM := (yX12_takes.cls, cX12_takes, 2, none, [], yX12_takes.name == "<init>")
abbrev J_X12_takes (l : Launch) (E : aE) (n0 m0 : Nat) := GG (fun (_ : Unit) => .inl none) l E M_X12_takes 0 0 n0 m0
theorem b_X12_takes {l : Launch} {E : aE} (hl : l.stackTraces = false) (n0 m0 : Nat) (x1 : Nat) (h0 : aH) : J_X12_takes l E n0 m0 0 [(0, .ref (e_z E + x1))] [] h0 (m_X12_takes x1 h0) := by
  unfold m_X12_takes
  refine g_iconst (pc := 0) dX12_takes_0 ci_0 ?_
  refine g_istore_n (pc := 1) (lv' := [(1, .int (0 : Int32)), (0, .ref (e_z E + x1))]) dX12_takes_1 (Nat.le_of_ble_eq_true rfl) rfl ?_
  refine g_join (fun k => ∀ (h1 : aH), J_X12_takes l E n0 m0 27 [] [] h1 (k h1)) (fun h1 => ?_) (fun k27 hk27 => ?_)
  · exact g_ret (pc := 27) rfl isRet_v dX12_takes_27 rfl
  refine g_lv [1, 0] rfl ?_
  refine g_loop1 (F := (m_X12_takes_L2 x1 k27)) (fun x2 => [(0, .ref (e_z E + x1)), (1, .int x2)]) (fun r2 hr2 x2 h2 => ?_) _ _ _
  unfold m_X12_takes_L2
  refine g_iload_n (pc := 2) dX12_takes_2 1 rfl ?_
  refine g_sipush (pc := 3) dX12_takes_3 cs_603 ?_
  refine g_icmpge (pc := 6) (tgt := 27) dX12_takes_6 rfl ?_ ?_
  · refine g_aload_n (pc := 9) dX12_takes_9 0 rfl ?_
    refine g_getr (pc := 10) cl12 (Nat.le_of_ble_eq_true rfl) fk1552 (fun _ _ _ => rfl) dX12_takes_10 (fun x3 => ?_)
    refine g_iload_n (pc := 13) dX12_takes_13 1 rfl ?_
    refine g_aload_n (pc := 14) dX12_takes_14 0 rfl ?_
    refine g_getr (pc := 15) cl12 (Nat.le_of_ble_eq_true rfl) fk1555 (fun _ _ _ => rfl) dX12_takes_15 (fun x4 => ?_)
    refine g_iload_n (pc := 18) dX12_takes_18 1 rfl ?_
    refine g_iald (pc := 19) dX12_takes_19 (fun x5 => ?_)
    refine g_iast (pc := 20) dX12_takes_20 (fun h3 => ?_)
    refine g_iincN (pc := 21) dX12_takes_21 1 rfl ci_1 (Nat.le_of_ble_eq_true rfl) (fun x6 => ?_)
    refine g_lvr (lv' := [(1, .int x6), (0, .ref (e_z E + x1))]) rfl ?_
    refine g_goto (pc := 24) (tgt := 2) dX12_takes_24 rfl ?_
    refine g_lv [1, 0] rfl ?_
    exact hr2 x6 h3
  · refine g_lv [] rfl ?_
    exact hk27 h2
theorem p_X12_takes {l : Launch} {E : aE} (hl : l.stackTraces = false) (x1 : Nat) (h0 : aH) : MO (fun (_ : Unit) => .inl none) l E yX12_takes (.code yX12_takes cX12_takes 2 none) 0 0 [.ref (e_z E + x1)] h0 (m_X12_takes x1 h0) := g_met hl (by decide +kernel) (Nat.le_of_ble_eq_true rfl) (b_X12_takes hl _ _ x1 h0)
theorem dX12_time_0 : decode cX12_time 0 = .ok (.aload_n 0, 1) := by decide +kernel
theorem dX12_time_1 : decode cX12_time 1 = .ok (.iconst 0, 1) := by decide +kernel
theorem dX12_time_2 : decode cX12_time 2 = .ok (.putfield 166, 3) := by decide +kernel
theorem dX12_time_5 : decode cX12_time 5 = .ok (.aload_n 0, 1) := by decide +kernel
theorem dX12_time_6 : decode cX12_time 6 = .ok (.getfield 7, 3) := by decide +kernel
theorem dX12_time_9 : decode cX12_time 9 = .ok (.iconst 0, 1) := by decide +kernel
theorem dX12_time_10 : decode cX12_time 10 = .ok (.iaload, 1) := by decide +kernel
theorem dX12_time_11 : decode cX12_time 11 = .ok (.ireturn, 1) := by decide +kernel
abbrev M_X12_time : aM := (yX12_time.cls, cX12_time, 1, (some .int), [], yX12_time.name == "<init>")
abbrev J_X12_time (l : Launch) (E : aE) (n0 m0 : Nat) := GG (fun (v : Int32) => .inl (some (.int v))) l E M_X12_time 0 0 n0 m0
theorem b_X12_time {l : Launch} {E : aE} (hl : l.stackTraces = false) (n0 m0 : Nat) (x1 : Nat) (h0 : aH) : J_X12_time l E n0 m0 0 [(0, .ref (e_z E + x1))] [] h0 (m_X12_time x1 h0) := by
  unfold m_X12_time
  refine g_aload_n (pc := 0) dX12_time_0 0 rfl ?_
  refine g_iconst (pc := 1) dX12_time_1 ci_0 ?_
  refine g_puti (pc := 2) cl12 (Nat.le_of_ble_eq_true rfl) (Or.inl ⟨rfl, fk1551⟩) (fun _ _ _ => rfl) (fun _ => ⟨rfl, rfl⟩) dX12_time_2 (fun h1 => ?_)
  refine g_aload_n (pc := 5) dX12_time_5 0 rfl ?_
  refine g_getr (pc := 6) cl12 (Nat.le_of_ble_eq_true rfl) fk1552 (fun _ _ _ => rfl) dX12_time_6 (fun x2 => ?_)
  refine g_iconst (pc := 9) dX12_time_9 ci_0 ?_
  refine g_iald (pc := 10) dX12_time_10 (fun x3 => ?_)
  exact g_ret (pc := 11) rfl (isRet_i _) dX12_time_11 rfl
theorem p_X12_time {l : Launch} {E : aE} (hl : l.stackTraces = false) (x1 : Nat) (h0 : aH) : MO (fun (v : Int32) => .inl (some (.int v))) l E yX12_time (.code yX12_time cX12_time 1 (some .int)) 0 0 [.ref (e_z E + x1)] h0 (m_X12_time x1 h0) := g_met hl (by decide +kernel) (Nat.le_of_ble_eq_true rfl) (b_X12_time hl _ _ x1 h0)
theorem dX12_nightMinutes_0 : decode cX12_nightMinutes 0 = .ok (.aload_n 0, 1) := by decide +kernel
theorem dX12_nightMinutes_1 : decode cX12_nightMinutes 1 = .ok (.iload_n 1, 1) := by decide +kernel
theorem dX12_nightMinutes_2 : decode cX12_nightMinutes 2 = .ok (.ifCond .lt 15, 3) := by decide +kernel
theorem dX12_nightMinutes_5 : decode cX12_nightMinutes 5 = .ok (.iload_n 2, 1) := by decide +kernel
theorem dX12_nightMinutes_6 : decode cX12_nightMinutes 6 = .ok (.sipush 20160, 3) := by decide +kernel
theorem dX12_nightMinutes_9 : decode cX12_nightMinutes 9 = .ok (.if_icmp .gt 8, 3) := by decide +kernel
theorem dX12_nightMinutes_12 : decode cX12_nightMinutes 12 = .ok (.iload_n 1, 1) := by decide +kernel
theorem dX12_nightMinutes_13 : decode cX12_nightMinutes 13 = .ok (.iload_n 2, 1) := by decide +kernel
theorem dX12_nightMinutes_14 : decode cX12_nightMinutes 14 = .ok (.if_icmp .le 7, 3) := by decide +kernel
theorem dX12_nightMinutes_17 : decode cX12_nightMinutes 17 = .ok (.iconst 1, 1) := by decide +kernel
theorem dX12_nightMinutes_18 : decode cX12_nightMinutes 18 = .ok (.goto 4, 3) := by decide +kernel
theorem dX12_nightMinutes_21 : decode cX12_nightMinutes 21 = .ok (.iconst 0, 1) := by decide +kernel
theorem dX12_nightMinutes_22 : decode cX12_nightMinutes 22 = .ok (.putfield 166, 3) := by decide +kernel
theorem dX12_nightMinutes_25 : decode cX12_nightMinutes 25 = .ok (.iconst 0, 1) := by decide +kernel
theorem dX12_nightMinutes_26 : decode cX12_nightMinutes 26 = .ok (.istore_n 3, 1) := by decide +kernel
theorem dX12_nightMinutes_27 : decode cX12_nightMinutes 27 = .ok (.iload_n 1, 1) := by decide +kernel
theorem dX12_nightMinutes_28 : decode cX12_nightMinutes 28 = .ok (.istore 4, 2) := by decide +kernel
theorem dX12_nightMinutes_30 : decode cX12_nightMinutes 30 = .ok (.iload 4, 2) := by decide +kernel
theorem dX12_nightMinutes_32 : decode cX12_nightMinutes 32 = .ok (.iload_n 2, 1) := by decide +kernel
theorem dX12_nightMinutes_33 : decode cX12_nightMinutes 33 = .ok (.if_icmp .ge 33, 3) := by decide +kernel
theorem dX12_nightMinutes_36 : decode cX12_nightMinutes 36 = .ok (.aload_n 0, 1) := by decide +kernel
theorem dX12_nightMinutes_37 : decode cX12_nightMinutes 37 = .ok (.getfield 166, 3) := by decide +kernel
theorem dX12_nightMinutes_40 : decode cX12_nightMinutes 40 = .ok (.ifCond .ne 26, 3) := by decide +kernel
theorem dX12_nightMinutes_43 : decode cX12_nightMinutes 43 = .ok (.iload_n 3, 1) := by decide +kernel
theorem dX12_nightMinutes_44 : decode cX12_nightMinutes 44 = .ok (.aload_n 0, 1) := by decide +kernel
theorem dX12_nightMinutes_45 : decode cX12_nightMinutes 45 = .ok (.iload 4, 2) := by decide +kernel
theorem dX12_nightMinutes_47 : decode cX12_nightMinutes 47 = .ok (.invokevirtual 347, 3) := by decide +kernel
theorem dX12_nightMinutes_50 : decode cX12_nightMinutes 50 = .ok (.ifCond .eq 7, 3) := by decide +kernel
theorem dX12_nightMinutes_53 : decode cX12_nightMinutes 53 = .ok (.iconst 1, 1) := by decide +kernel
theorem dX12_nightMinutes_54 : decode cX12_nightMinutes 54 = .ok (.goto 4, 3) := by decide +kernel
theorem dX12_nightMinutes_57 : decode cX12_nightMinutes 57 = .ok (.iconst 0, 1) := by decide +kernel
theorem dX12_nightMinutes_58 : decode cX12_nightMinutes 58 = .ok (.iadd, 1) := by decide +kernel
theorem dX12_nightMinutes_59 : decode cX12_nightMinutes 59 = .ok (.istore_n 3, 1) := by decide +kernel
theorem dX12_nightMinutes_60 : decode cX12_nightMinutes 60 = .ok (.iinc 4 1, 3) := by decide +kernel
theorem dX12_nightMinutes_63 : decode cX12_nightMinutes 63 = .ok (.goto (-33), 3) := by decide +kernel
theorem dX12_nightMinutes_66 : decode cX12_nightMinutes 66 = .ok (.iload_n 3, 1) := by decide +kernel
theorem dX12_nightMinutes_67 : decode cX12_nightMinutes 67 = .ok (.ireturn, 1) := by decide +kernel
abbrev M_X12_nightMinutes : aM := (yX12_nightMinutes.cls, cX12_nightMinutes, 5, (some .int), [], yX12_nightMinutes.name == "<init>")
abbrev J_X12_nightMinutes (l : Launch) (E : aE) (n0 m0 : Nat) := GG (fun (v : Int32) => .inl (some (.int v))) l E M_X12_nightMinutes 1 22 n0 m0
theorem b_X12_nightMinutes {l : Launch} {E : aE} (hl : l.stackTraces = false) (n0 m0 : Nat) (x1 : Nat) (x2 : Int32) (x3 : Int32) (h0 : aH) : J_X12_nightMinutes l E n0 m0 0 [(0, .ref (e_z E + x1)), (1, .int x2), (2, .int x3)] [] h0 (m_X12_nightMinutes x1 x2 x3 h0) := by
  unfold m_X12_nightMinutes
  refine g_aload_n (pc := 0) dX12_nightMinutes_0 0 rfl ?_
  refine g_iload_n (pc := 1) dX12_nightMinutes_1 1 rfl ?_
  refine g_join (fun k => ∀ (x4 : Int32) (h1 : aH), J_X12_nightMinutes l E n0 m0 22 [(0, .ref (e_z E + x1)), (1, .int x2), (2, .int x3)] [.int x4, .ref (e_z E + x1)] h1 (k x4 h1)) (fun x4 h1 => ?_) (fun k22 hk22 => ?_)
  · refine g_puti (pc := 22) cl12 (Nat.le_of_ble_eq_true rfl) (Or.inl ⟨rfl, fk1551⟩) (fun _ _ _ => rfl) (fun _ => ⟨rfl, rfl⟩) dX12_nightMinutes_22 (fun h2 => ?_)
    refine g_iconst (pc := 25) dX12_nightMinutes_25 ci_0 ?_
    refine g_istore_n (pc := 26) (lv' := [(3, .int (0 : Int32)), (0, .ref (e_z E + x1)), (1, .int x2), (2, .int x3)]) dX12_nightMinutes_26 (Nat.le_of_ble_eq_true rfl) rfl ?_
    refine g_iload_n (pc := 27) dX12_nightMinutes_27 2 rfl ?_
    refine g_istore (pc := 28) (lv' := [(4, .int x2), (3, .int (0 : Int32)), (0, .ref (e_z E + x1)), (1, .int x2), (2, .int x3)]) dX12_nightMinutes_28 (Nat.le_of_ble_eq_true rfl) rfl ?_
    refine g_join (fun k => ∀ (x5 : Int32) (h3 : aH), J_X12_nightMinutes l E n0 m0 66 [(3, .int x5)] [] h3 (k x5 h3)) (fun x5 h3 => ?_) (fun k66 hk66 => ?_)
    · refine g_iload_n (pc := 66) dX12_nightMinutes_66 0 rfl ?_
      exact g_ret (pc := 67) rfl (isRet_i _) dX12_nightMinutes_67 rfl
    refine g_lv [2, 4, 1, 0] rfl ?_
    refine g_loop2 (F := (m_X12_nightMinutes_L30 x1 x3 k66)) (fun x6 x7 => [(0, .ref (e_z E + x1)), (2, .int x3), (3, .int x6), (4, .int x7)]) (fun r30 hr30 x6 x7 h4 => ?_) _ _ _ _
    unfold m_X12_nightMinutes_L30
    refine g_iload (pc := 30) dX12_nightMinutes_30 3 rfl ?_
    refine g_iload_n (pc := 32) dX12_nightMinutes_32 1 rfl ?_
    refine g_icmpge (pc := 33) (tgt := 66) dX12_nightMinutes_33 rfl ?_ ?_
    · refine g_aload_n (pc := 36) dX12_nightMinutes_36 0 rfl ?_
      refine g_geti (pc := 37) cl12 (Nat.le_of_ble_eq_true rfl) fk1551 (fun _ _ _ => rfl) dX12_nightMinutes_37 (fun x8 => ?_)
      refine g_ifne (pc := 40) (tgt := 66) dX12_nightMinutes_40 rfl ?_ ?_
      · refine g_iload_n (pc := 43) dX12_nightMinutes_43 2 rfl ?_
        refine g_aload_n (pc := 44) dX12_nightMinutes_44 0 rfl ?_
        refine g_iload (pc := 45) dX12_nightMinutes_45 3 rfl ?_
        refine g_gS (fun hs => ?_)
        refine g_bRi (pc := 47) (c_V cl12 hs (p_X12_isNight hl x1 x7 h4) y_X12_isNight tw1919 dX12_nightMinutes_47 rfl (st := [.int x6]) rfl (Nat.le_of_ble_eq_true rfl) (Nat.le_of_ble_eq_true rfl) (Nat.le_of_ble_eq_true rfl)) (fun x9 h5 => ?_)
        refine g_join (fun k => ∀ (x10 : Int32) (h6 : aH), J_X12_nightMinutes l E n0 m0 58 [(0, .ref (e_z E + x1)), (2, .int x3), (4, .int x7)] [.int x10, .int x6] h6 (k x10 h6)) (fun x10 h6 => ?_) (fun k58 hk58 => ?_)
        · refine g_iadd (pc := 58) dX12_nightMinutes_58 ?_
          refine g_topi (fun x11 => ?_)
          refine g_istore_n (pc := 59) (lv' := [(3, .int x11), (0, .ref (e_z E + x1)), (2, .int x3), (4, .int x7)]) dX12_nightMinutes_59 (Nat.le_of_ble_eq_true rfl) rfl ?_
          refine g_iincN (pc := 60) dX12_nightMinutes_60 3 rfl ci_1 (Nat.le_of_ble_eq_true rfl) (fun x12 => ?_)
          refine g_lvr (lv' := [(4, .int x12), (3, .int x11), (0, .ref (e_z E + x1)), (2, .int x3)]) rfl ?_
          refine g_goto (pc := 63) (tgt := 30) dX12_nightMinutes_63 rfl ?_
          refine g_lv [2, 3, 1, 0] rfl ?_
          exact hr30 x11 x12 h6
        refine g_ifeq (pc := 50) (tgt := 57) dX12_nightMinutes_50 rfl ?_ ?_
        · refine g_iconst (pc := 57) dX12_nightMinutes_57 ci_0 ?_
          refine g_lv [0, 1, 3] rfl ?_
          exact hk58 (0 : Int32) h5
        · refine g_iconst (pc := 53) dX12_nightMinutes_53 ci_1 ?_
          refine g_goto (pc := 54) (tgt := 58) dX12_nightMinutes_54 rfl ?_
          refine g_lv [0, 1, 3] rfl ?_
          exact hk58 (1 : Int32) h5
      · refine g_lv [2] rfl ?_
        exact hk66 x6 h4
    · refine g_lv [2] rfl ?_
      exact hk66 x6 h4
  refine g_join (fun k => ∀ (h7 : aH), J_X12_nightMinutes l E n0 m0 17 [(0, .ref (e_z E + x1)), (1, .int x2), (2, .int x3)] [.ref (e_z E + x1)] h7 (k h7)) (fun h7 => ?_) (fun k17 hk17 => ?_)
  · refine g_iconst (pc := 17) dX12_nightMinutes_17 ci_1 ?_
    refine g_goto (pc := 18) (tgt := 22) dX12_nightMinutes_18 rfl ?_
    exact hk22 (1 : Int32) h7
  refine g_iflt (pc := 2) (tgt := 17) dX12_nightMinutes_2 rfl ?_ ?_
  · exact hk17 h0
  · refine g_iload_n (pc := 5) dX12_nightMinutes_5 2 rfl ?_
    refine g_sipush (pc := 6) dX12_nightMinutes_6 cs_20160 ?_
    refine g_icmpgt (pc := 9) (tgt := 17) dX12_nightMinutes_9 rfl ?_ ?_
    · refine g_iload_n (pc := 12) dX12_nightMinutes_12 1 rfl ?_
      refine g_iload_n (pc := 13) dX12_nightMinutes_13 2 rfl ?_
      refine g_icmple (pc := 14) (tgt := 21) dX12_nightMinutes_14 rfl ?_ ?_
      · refine g_iconst (pc := 21) dX12_nightMinutes_21 ci_0 ?_
        exact hk22 (0 : Int32) h0
      · exact hk17 h0
    · exact hk17 h0
theorem p_X12_nightMinutes {l : Launch} {E : aE} (hl : l.stackTraces = false) (x1 : Nat) (x2 : Int32) (x3 : Int32) (h0 : aH) : MO (fun (v : Int32) => .inl (some (.int v))) l E yX12_nightMinutes (.code yX12_nightMinutes cX12_nightMinutes 5 (some .int)) 1 22 [.ref (e_z E + x1), .int x2, .int x3] h0 (m_X12_nightMinutes x1 x2 x3 h0) := g_met hl (by decide +kernel) (Nat.le_of_ble_eq_true rfl) (b_X12_nightMinutes hl _ _ x1 x2 x3 h0)
theorem dX12_isPerson_0 : decode cX12_isPerson 0 = .ok (.iload_n 1, 1) := by decide +kernel
theorem dX12_isPerson_1 : decode cX12_isPerson 1 = .ok (.i2l, 1) := by decide +kernel
theorem dX12_isPerson_2 : decode cX12_isPerson 2 = .ok (.lconst 0, 1) := by decide +kernel
theorem dX12_isPerson_3 : decode cX12_isPerson 3 = .ok (.aload_n 0, 1) := by decide +kernel
theorem dX12_isPerson_4 : decode cX12_isPerson 4 = .ok (.getfield 325, 3) := by decide +kernel
theorem dX12_isPerson_7 : decode cX12_isPerson 7 = .ok (.iconst 1, 1) := by decide +kernel
theorem dX12_isPerson_8 : decode cX12_isPerson 8 = .ok (.isub, 1) := by decide +kernel
theorem dX12_isPerson_9 : decode cX12_isPerson 9 = .ok (.i2l, 1) := by decide +kernel
theorem dX12_isPerson_10 : decode cX12_isPerson 10 = .ok (.invokestatic 176, 3) := by decide +kernel
theorem dX12_isPerson_13 : decode cX12_isPerson 13 = .ok (.ireturn, 1) := by decide +kernel
abbrev M_X12_isPerson : aM := (yX12_isPerson.cls, cX12_isPerson, 2, (some .boolean), [], yX12_isPerson.name == "<init>")
abbrev J_X12_isPerson (l : Launch) (E : aE) (n0 m0 : Nat) := GG (fun (v : Int32) => .inl (some (.int v))) l E M_X12_isPerson 1 25 n0 m0
theorem b_X12_isPerson {l : Launch} {E : aE} (hl : l.stackTraces = false) (n0 m0 : Nat) (x1 : Nat) (x2 : Int32) (h0 : aH) : J_X12_isPerson l E n0 m0 0 [(0, .ref (e_z E + x1)), (1, .int x2)] [] h0 (m_X12_isPerson x1 x2 h0) := by
  unfold m_X12_isPerson
  refine g_iload_n (pc := 0) dX12_isPerson_0 1 rfl ?_
  refine g_i2l (pc := 1) dX12_isPerson_1 ?_
  refine g_lconst (pc := 2) dX12_isPerson_2 cl_0 ?_
  refine g_aload_n (pc := 3) dX12_isPerson_3 0 rfl ?_
  refine g_geti (pc := 4) cl12 (Nat.le_of_ble_eq_true rfl) fk1559 (fun _ _ _ => rfl) dX12_isPerson_4 (fun x3 => ?_)
  refine g_iconst (pc := 7) dX12_isPerson_7 ci_1 ?_
  refine g_isub (pc := 8) dX12_isPerson_8 ?_
  refine g_i2l (pc := 9) dX12_isPerson_9 ?_
  refine g_bRi (pc := 10) (c_S (p_X12_in hl (x2.toInt64) (0 : Int64) ((x3 - (1 : Int32)).toInt64) h0) y_X12_in tw1782 dX12_isPerson_10 rfl (st := []) rfl (Nat.le_of_ble_eq_true rfl) (Nat.le_of_ble_eq_true rfl) (Nat.le_of_ble_eq_true rfl)) (fun x4 h1 => ?_)
  refine g_zO (fun hz => ?_)
  exact g_ret (pc := 13) rfl (isRet_z hz) dX12_isPerson_13 rfl
theorem p_X12_isPerson {l : Launch} {E : aE} (hl : l.stackTraces = false) (x1 : Nat) (x2 : Int32) (h0 : aH) : MO (fun (v : Int32) => .inl (some (.int v))) l E yX12_isPerson (.code yX12_isPerson cX12_isPerson 2 (some .boolean)) 1 25 [.ref (e_z E + x1), .int x2] h0 (m_X12_isPerson x1 x2 h0) := g_met hl (by decide +kernel) (Nat.le_of_ble_eq_true rfl) (b_X12_isPerson hl _ _ x1 x2 h0)
theorem dX12_outUntil_0 : decode cX12_outUntil 0 = .ok (.aload_n 0, 1) := by decide +kernel
theorem dX12_outUntil_1 : decode cX12_outUntil 1 = .ok (.aload_n 0, 1) := by decide +kernel
theorem dX12_outUntil_2 : decode cX12_outUntil 2 = .ok (.iload_n 1, 1) := by decide +kernel
theorem dX12_outUntil_3 : decode cX12_outUntil 3 = .ok (.invokevirtual 353, 3) := by decide +kernel
theorem dX12_outUntil_6 : decode cX12_outUntil 6 = .ok (.ifCond .eq 7, 3) := by decide +kernel
theorem dX12_outUntil_9 : decode cX12_outUntil 9 = .ok (.iconst 0, 1) := by decide +kernel
theorem dX12_outUntil_10 : decode cX12_outUntil 10 = .ok (.goto 4, 3) := by decide +kernel
theorem dX12_outUntil_13 : decode cX12_outUntil 13 = .ok (.iconst 1, 1) := by decide +kernel
theorem dX12_outUntil_14 : decode cX12_outUntil 14 = .ok (.putfield 166, 3) := by decide +kernel
theorem dX12_outUntil_17 : decode cX12_outUntil 17 = .ok (.aload_n 0, 1) := by decide +kernel
theorem dX12_outUntil_18 : decode cX12_outUntil 18 = .ok (.getfield 166, 3) := by decide +kernel
theorem dX12_outUntil_21 : decode cX12_outUntil 21 = .ok (.ifCond .le 7, 3) := by decide +kernel
theorem dX12_outUntil_24 : decode cX12_outUntil 24 = .ok (.iconst 0, 1) := by decide +kernel
theorem dX12_outUntil_25 : decode cX12_outUntil 25 = .ok (.goto 24, 3) := by decide +kernel
theorem dX12_outUntil_28 : decode cX12_outUntil 28 = .ok (.aload_n 0, 1) := by decide +kernel
theorem dX12_outUntil_29 : decode cX12_outUntil 29 = .ok (.iload_n 1, 1) := by decide +kernel
theorem dX12_outUntil_30 : decode cX12_outUntil 30 = .ok (.invokevirtual 356, 3) := by decide +kernel
theorem dX12_outUntil_33 : decode cX12_outUntil 33 = .ok (.ifCond .eq 15, 3) := by decide +kernel
theorem dX12_outUntil_36 : decode cX12_outUntil 36 = .ok (.aload_n 0, 1) := by decide +kernel
theorem dX12_outUntil_37 : decode cX12_outUntil 37 = .ok (.getfield 7, 3) := by decide +kernel
theorem dX12_outUntil_40 : decode cX12_outUntil 40 = .ok (.bipush 14, 2) := by decide +kernel
theorem dX12_outUntil_42 : decode cX12_outUntil 42 = .ok (.iload_n 1, 1) := by decide +kernel
theorem dX12_outUntil_43 : decode cX12_outUntil 43 = .ok (.iadd, 1) := by decide +kernel
theorem dX12_outUntil_44 : decode cX12_outUntil 44 = .ok (.iaload, 1) := by decide +kernel
theorem dX12_outUntil_45 : decode cX12_outUntil 45 = .ok (.goto 4, 3) := by decide +kernel
theorem dX12_outUntil_48 : decode cX12_outUntil 48 = .ok (.iconst (-1), 1) := by decide +kernel
theorem dX12_outUntil_49 : decode cX12_outUntil 49 = .ok (.ireturn, 1) := by decide +kernel
abbrev M_X12_outUntil : aM := (yX12_outUntil.cls, cX12_outUntil, 2, (some .int), [], yX12_outUntil.name == "<init>")
abbrev J_X12_outUntil (l : Launch) (E : aE) (n0 m0 : Nat) := GG (fun (v : Int32) => .inl (some (.int v))) l E M_X12_outUntil 2 46 n0 m0
theorem b_X12_outUntil {l : Launch} {E : aE} (hl : l.stackTraces = false) (n0 m0 : Nat) (x1 : Nat) (x2 : Int32) (h0 : aH) : J_X12_outUntil l E n0 m0 0 [(0, .ref (e_z E + x1)), (1, .int x2)] [] h0 (m_X12_outUntil x1 x2 h0) := by
  unfold m_X12_outUntil
  refine g_aload_n (pc := 0) dX12_outUntil_0 0 rfl ?_
  refine g_aload_n (pc := 1) dX12_outUntil_1 0 rfl ?_
  refine g_iload_n (pc := 2) dX12_outUntil_2 1 rfl ?_
  refine g_gS (fun hs => ?_)
  refine g_bRi (pc := 3) (c_V cl12 hs (p_X12_isPerson hl x1 x2 h0) y_X12_isPerson tw1927 dX12_outUntil_3 rfl (st := [.ref (e_z E + x1)]) rfl (Nat.le_of_ble_eq_true rfl) (Nat.le_of_ble_eq_true rfl) (Nat.le_of_ble_eq_true rfl)) (fun x3 h1 => ?_)
  refine g_join (fun k => ∀ (x4 : Int32) (h2 : aH), J_X12_outUntil l E n0 m0 14 [(0, .ref (e_z E + x1)), (1, .int x2)] [.int x4, .ref (e_z E + x1)] h2 (k x4 h2)) (fun x4 h2 => ?_) (fun k14 hk14 => ?_)
  · refine g_puti (pc := 14) cl12 (Nat.le_of_ble_eq_true rfl) (Or.inl ⟨rfl, fk1551⟩) (fun _ _ _ => rfl) (fun _ => ⟨rfl, rfl⟩) dX12_outUntil_14 (fun h3 => ?_)
    refine g_aload_n (pc := 17) dX12_outUntil_17 0 rfl ?_
    refine g_geti (pc := 18) cl12 (Nat.le_of_ble_eq_true rfl) fk1551 (fun _ _ _ => rfl) dX12_outUntil_18 (fun x5 => ?_)
    refine g_join (fun k => ∀ (x6 : Int32) (h4 : aH), J_X12_outUntil l E n0 m0 49 [] [.int x6] h4 (k x6 h4)) (fun x6 h4 => ?_) (fun k49 hk49 => ?_)
    · exact g_ret (pc := 49) rfl (isRet_i _) dX12_outUntil_49 rfl
    refine g_ifle (pc := 21) (tgt := 28) dX12_outUntil_21 rfl ?_ ?_
    · refine g_aload_n (pc := 28) dX12_outUntil_28 0 rfl ?_
      refine g_iload_n (pc := 29) dX12_outUntil_29 1 rfl ?_
      refine g_gS (fun hs => ?_)
      refine g_bRi (pc := 30) (c_V cl12 hs (p_X12_isOut hl x1 x2 h3) y_X12_isOut tw1931 dX12_outUntil_30 rfl (st := []) rfl (Nat.le_of_ble_eq_true rfl) (Nat.le_of_ble_eq_true rfl) (Nat.le_of_ble_eq_true rfl)) (fun x7 h5 => ?_)
      refine g_ifeq (pc := 33) (tgt := 48) dX12_outUntil_33 rfl ?_ ?_
      · refine g_iconst (pc := 48) dX12_outUntil_48 ci_m1 ?_
        refine g_lv [] rfl ?_
        exact hk49 (-1 : Int32) h5
      · refine g_aload_n (pc := 36) dX12_outUntil_36 0 rfl ?_
        refine g_getr (pc := 37) cl12 (Nat.le_of_ble_eq_true rfl) fk1552 (fun _ _ _ => rfl) dX12_outUntil_37 (fun x8 => ?_)
        refine g_bipush (pc := 40) dX12_outUntil_40 cb_14 ?_
        refine g_iload_n (pc := 42) dX12_outUntil_42 1 rfl ?_
        refine g_iadd (pc := 43) dX12_outUntil_43 ?_
        refine g_iald (pc := 44) dX12_outUntil_44 (fun x9 => ?_)
        refine g_goto (pc := 45) (tgt := 49) dX12_outUntil_45 rfl ?_
        refine g_lv [] rfl ?_
        exact hk49 x9 h5
    · refine g_iconst (pc := 24) dX12_outUntil_24 ci_0 ?_
      refine g_goto (pc := 25) (tgt := 49) dX12_outUntil_25 rfl ?_
      refine g_lv [] rfl ?_
      exact hk49 (0 : Int32) h3
  refine g_ifeq (pc := 6) (tgt := 13) dX12_outUntil_6 rfl ?_ ?_
  · refine g_iconst (pc := 13) dX12_outUntil_13 ci_1 ?_
    exact hk14 (1 : Int32) h1
  · refine g_iconst (pc := 9) dX12_outUntil_9 ci_0 ?_
    refine g_goto (pc := 10) (tgt := 14) dX12_outUntil_10 rfl ?_
    exact hk14 (0 : Int32) h1
theorem p_X12_outUntil {l : Launch} {E : aE} (hl : l.stackTraces = false) (x1 : Nat) (x2 : Int32) (h0 : aH) : MO (fun (v : Int32) => .inl (some (.int v))) l E yX12_outUntil (.code yX12_outUntil cX12_outUntil 2 (some .int)) 2 46 [.ref (e_z E + x1), .int x2] h0 (m_X12_outUntil x1 x2 h0) := g_met hl (by decide +kernel) (Nat.le_of_ble_eq_true rfl) (b_X12_outUntil hl _ _ x1 x2 h0)
theorem dX12_lostSleep_0 : decode cX12_lostSleep 0 = .ok (.aload_n 0, 1) := by decide +kernel
theorem dX12_lostSleep_1 : decode cX12_lostSleep 1 = .ok (.aload_n 0, 1) := by decide +kernel
theorem dX12_lostSleep_2 : decode cX12_lostSleep 2 = .ok (.iload_n 1, 1) := by decide +kernel
theorem dX12_lostSleep_3 : decode cX12_lostSleep 3 = .ok (.invokevirtual 353, 3) := by decide +kernel
theorem dX12_lostSleep_6 : decode cX12_lostSleep 6 = .ok (.ifCond .eq 7, 3) := by decide +kernel
theorem dX12_lostSleep_9 : decode cX12_lostSleep 9 = .ok (.iconst 0, 1) := by decide +kernel
theorem dX12_lostSleep_10 : decode cX12_lostSleep 10 = .ok (.goto 4, 3) := by decide +kernel
theorem dX12_lostSleep_13 : decode cX12_lostSleep 13 = .ok (.iconst 1, 1) := by decide +kernel
theorem dX12_lostSleep_14 : decode cX12_lostSleep 14 = .ok (.putfield 166, 3) := by decide +kernel
theorem dX12_lostSleep_17 : decode cX12_lostSleep 17 = .ok (.aload_n 0, 1) := by decide +kernel
theorem dX12_lostSleep_18 : decode cX12_lostSleep 18 = .ok (.getfield 166, 3) := by decide +kernel
theorem dX12_lostSleep_21 : decode cX12_lostSleep 21 = .ok (.ifCond .le 7, 3) := by decide +kernel
theorem dX12_lostSleep_24 : decode cX12_lostSleep 24 = .ok (.iconst 0, 1) := by decide +kernel
theorem dX12_lostSleep_25 : decode cX12_lostSleep 25 = .ok (.goto 11, 3) := by decide +kernel
theorem dX12_lostSleep_28 : decode cX12_lostSleep 28 = .ok (.aload_n 0, 1) := by decide +kernel
theorem dX12_lostSleep_29 : decode cX12_lostSleep 29 = .ok (.getfield 7, 3) := by decide +kernel
theorem dX12_lostSleep_32 : decode cX12_lostSleep 32 = .ok (.iconst 2, 1) := by decide +kernel
theorem dX12_lostSleep_33 : decode cX12_lostSleep 33 = .ok (.iload_n 1, 1) := by decide +kernel
theorem dX12_lostSleep_34 : decode cX12_lostSleep 34 = .ok (.iadd, 1) := by decide +kernel
theorem dX12_lostSleep_35 : decode cX12_lostSleep 35 = .ok (.iaload, 1) := by decide +kernel
theorem dX12_lostSleep_36 : decode cX12_lostSleep 36 = .ok (.ireturn, 1) := by decide +kernel
abbrev M_X12_lostSleep : aM := (yX12_lostSleep.cls, cX12_lostSleep, 2, (some .int), [], yX12_lostSleep.name == "<init>")
abbrev J_X12_lostSleep (l : Launch) (E : aE) (n0 m0 : Nat) := GG (fun (v : Int32) => .inl (some (.int v))) l E M_X12_lostSleep 2 46 n0 m0
theorem b_X12_lostSleep {l : Launch} {E : aE} (hl : l.stackTraces = false) (n0 m0 : Nat) (x1 : Nat) (x2 : Int32) (h0 : aH) : J_X12_lostSleep l E n0 m0 0 [(0, .ref (e_z E + x1)), (1, .int x2)] [] h0 (m_X12_lostSleep x1 x2 h0) := by
  unfold m_X12_lostSleep
  refine g_aload_n (pc := 0) dX12_lostSleep_0 0 rfl ?_
  refine g_aload_n (pc := 1) dX12_lostSleep_1 0 rfl ?_
  refine g_iload_n (pc := 2) dX12_lostSleep_2 1 rfl ?_
  refine g_gS (fun hs => ?_)
  refine g_bRi (pc := 3) (c_V cl12 hs (p_X12_isPerson hl x1 x2 h0) y_X12_isPerson tw1927 dX12_lostSleep_3 rfl (st := [.ref (e_z E + x1)]) rfl (Nat.le_of_ble_eq_true rfl) (Nat.le_of_ble_eq_true rfl) (Nat.le_of_ble_eq_true rfl)) (fun x3 h1 => ?_)
  refine g_join (fun k => ∀ (x4 : Int32) (h2 : aH), J_X12_lostSleep l E n0 m0 14 [(0, .ref (e_z E + x1)), (1, .int x2)] [.int x4, .ref (e_z E + x1)] h2 (k x4 h2)) (fun x4 h2 => ?_) (fun k14 hk14 => ?_)
  · refine g_puti (pc := 14) cl12 (Nat.le_of_ble_eq_true rfl) (Or.inl ⟨rfl, fk1551⟩) (fun _ _ _ => rfl) (fun _ => ⟨rfl, rfl⟩) dX12_lostSleep_14 (fun h3 => ?_)
    refine g_aload_n (pc := 17) dX12_lostSleep_17 0 rfl ?_
    refine g_geti (pc := 18) cl12 (Nat.le_of_ble_eq_true rfl) fk1551 (fun _ _ _ => rfl) dX12_lostSleep_18 (fun x5 => ?_)
    refine g_join (fun k => ∀ (x6 : Int32) (h4 : aH), J_X12_lostSleep l E n0 m0 36 [] [.int x6] h4 (k x6 h4)) (fun x6 h4 => ?_) (fun k36 hk36 => ?_)
    · exact g_ret (pc := 36) rfl (isRet_i _) dX12_lostSleep_36 rfl
    refine g_ifle (pc := 21) (tgt := 28) dX12_lostSleep_21 rfl ?_ ?_
    · refine g_aload_n (pc := 28) dX12_lostSleep_28 0 rfl ?_
      refine g_getr (pc := 29) cl12 (Nat.le_of_ble_eq_true rfl) fk1552 (fun _ _ _ => rfl) dX12_lostSleep_29 (fun x7 => ?_)
      refine g_iconst (pc := 32) dX12_lostSleep_32 ci_2 ?_
      refine g_iload_n (pc := 33) dX12_lostSleep_33 1 rfl ?_
      refine g_iadd (pc := 34) dX12_lostSleep_34 ?_
      refine g_iald (pc := 35) dX12_lostSleep_35 (fun x8 => ?_)
      refine g_lv [] rfl ?_
      exact hk36 x8 h3
    · refine g_iconst (pc := 24) dX12_lostSleep_24 ci_0 ?_
      refine g_goto (pc := 25) (tgt := 36) dX12_lostSleep_25 rfl ?_
      refine g_lv [] rfl ?_
      exact hk36 (0 : Int32) h3
  refine g_ifeq (pc := 6) (tgt := 13) dX12_lostSleep_6 rfl ?_ ?_
  · refine g_iconst (pc := 13) dX12_lostSleep_13 ci_1 ?_
    exact hk14 (1 : Int32) h1
  · refine g_iconst (pc := 9) dX12_lostSleep_9 ci_0 ?_
    refine g_goto (pc := 10) (tgt := 14) dX12_lostSleep_10 rfl ?_
    exact hk14 (0 : Int32) h1
theorem p_X12_lostSleep {l : Launch} {E : aE} (hl : l.stackTraces = false) (x1 : Nat) (x2 : Int32) (h0 : aH) : MO (fun (v : Int32) => .inl (some (.int v))) l E yX12_lostSleep (.code yX12_lostSleep cX12_lostSleep 2 (some .int)) 2 46 [.ref (e_z E + x1), .int x2] h0 (m_X12_lostSleep x1 x2 h0) := g_met hl (by decide +kernel) (Nat.le_of_ble_eq_true rfl) (b_X12_lostSleep hl _ _ x1 x2 h0)
theorem dX12_lostSleepAfter_0 : decode cX12_lostSleepAfter 0 = .ok (.aload_n 0, 1) := by decide +kernel
theorem dX12_lostSleepAfter_1 : decode cX12_lostSleepAfter 1 = .ok (.aload_n 0, 1) := by decide +kernel
theorem dX12_lostSleepAfter_2 : decode cX12_lostSleepAfter 2 = .ok (.iload_n 1, 1) := by decide +kernel
theorem dX12_lostSleepAfter_3 : decode cX12_lostSleepAfter 3 = .ok (.invokevirtual 353, 3) := by decide +kernel
theorem dX12_lostSleepAfter_6 : decode cX12_lostSleepAfter 6 = .ok (.ifCond .ne 7, 3) := by decide +kernel
theorem dX12_lostSleepAfter_9 : decode cX12_lostSleepAfter 9 = .ok (.iconst 1, 1) := by decide +kernel
theorem dX12_lostSleepAfter_10 : decode cX12_lostSleepAfter 10 = .ok (.goto 20, 3) := by decide +kernel
theorem dX12_lostSleepAfter_13 : decode cX12_lostSleepAfter 13 = .ok (.iload_n 2, 1) := by decide +kernel
theorem dX12_lostSleepAfter_14 : decode cX12_lostSleepAfter 14 = .ok (.i2l, 1) := by decide +kernel
theorem dX12_lostSleepAfter_15 : decode cX12_lostSleepAfter 15 = .ok (.lconst 0, 1) := by decide +kernel
theorem dX12_lostSleepAfter_16 : decode cX12_lostSleepAfter 16 = .ok (.ldc2_w 359, 3) := by decide +kernel
theorem dX12_lostSleepAfter_19 : decode cX12_lostSleepAfter 19 = .ok (.invokestatic 176, 3) := by decide +kernel
theorem dX12_lostSleepAfter_22 : decode cX12_lostSleepAfter 22 = .ok (.ifCond .eq 7, 3) := by decide +kernel
theorem dX12_lostSleepAfter_25 : decode cX12_lostSleepAfter 25 = .ok (.iconst 0, 1) := by decide +kernel
theorem dX12_lostSleepAfter_26 : decode cX12_lostSleepAfter 26 = .ok (.goto 4, 3) := by decide +kernel
theorem dX12_lostSleepAfter_29 : decode cX12_lostSleepAfter 29 = .ok (.iconst 2, 1) := by decide +kernel
theorem dX12_lostSleepAfter_30 : decode cX12_lostSleepAfter 30 = .ok (.putfield 166, 3) := by decide +kernel
theorem dX12_lostSleepAfter_33 : decode cX12_lostSleepAfter 33 = .ok (.aload_n 0, 1) := by decide +kernel
theorem dX12_lostSleepAfter_34 : decode cX12_lostSleepAfter 34 = .ok (.getfield 166, 3) := by decide +kernel
theorem dX12_lostSleepAfter_37 : decode cX12_lostSleepAfter 37 = .ok (.ifCond .le 5, 3) := by decide +kernel
theorem dX12_lostSleepAfter_40 : decode cX12_lostSleepAfter 40 = .ok (.iconst 0, 1) := by decide +kernel
theorem dX12_lostSleepAfter_41 : decode cX12_lostSleepAfter 41 = .ok (.ireturn, 1) := by decide +kernel
theorem dX12_lostSleepAfter_42 : decode cX12_lostSleepAfter 42 = .ok (.aload_n 0, 1) := by decide +kernel
theorem dX12_lostSleepAfter_43 : decode cX12_lostSleepAfter 43 = .ok (.invokevirtual 361, 3) := by decide +kernel
theorem dX12_lostSleepAfter_46 : decode cX12_lostSleepAfter 46 = .ok (.iconst 0, 1) := by decide +kernel
theorem dX12_lostSleepAfter_47 : decode cX12_lostSleepAfter 47 = .ok (.istore_n 3, 1) := by decide +kernel
theorem dX12_lostSleepAfter_48 : decode cX12_lostSleepAfter 48 = .ok (.iload_n 3, 1) := by decide +kernel
theorem dX12_lostSleepAfter_49 : decode cX12_lostSleepAfter 49 = .ok (.iload_n 2, 1) := by decide +kernel
theorem dX12_lostSleepAfter_50 : decode cX12_lostSleepAfter 50 = .ok (.if_icmp .ge 14, 3) := by decide +kernel
theorem dX12_lostSleepAfter_53 : decode cX12_lostSleepAfter 53 = .ok (.aload_n 0, 1) := by decide +kernel
theorem dX12_lostSleepAfter_54 : decode cX12_lostSleepAfter 54 = .ok (.invokevirtual 364, 3) := by decide +kernel
theorem dX12_lostSleepAfter_57 : decode cX12_lostSleepAfter 57 = .ok (.pop, 1) := by decide +kernel
theorem dX12_lostSleepAfter_58 : decode cX12_lostSleepAfter 58 = .ok (.iinc 3 1, 3) := by decide +kernel
theorem dX12_lostSleepAfter_61 : decode cX12_lostSleepAfter 61 = .ok (.goto (-13), 3) := by decide +kernel
theorem dX12_lostSleepAfter_64 : decode cX12_lostSleepAfter 64 = .ok (.aload_n 0, 1) := by decide +kernel
theorem dX12_lostSleepAfter_65 : decode cX12_lostSleepAfter 65 = .ok (.getfield 7, 3) := by decide +kernel
theorem dX12_lostSleepAfter_68 : decode cX12_lostSleepAfter 68 = .ok (.iconst 2, 1) := by decide +kernel
theorem dX12_lostSleepAfter_69 : decode cX12_lostSleepAfter 69 = .ok (.iload_n 1, 1) := by decide +kernel
theorem dX12_lostSleepAfter_70 : decode cX12_lostSleepAfter 70 = .ok (.iadd, 1) := by decide +kernel
theorem dX12_lostSleepAfter_71 : decode cX12_lostSleepAfter 71 = .ok (.iaload, 1) := by decide +kernel
theorem dX12_lostSleepAfter_72 : decode cX12_lostSleepAfter 72 = .ok (.istore_n 3, 1) := by decide +kernel
theorem dX12_lostSleepAfter_73 : decode cX12_lostSleepAfter 73 = .ok (.aload_n 0, 1) := by decide +kernel
theorem dX12_lostSleepAfter_74 : decode cX12_lostSleepAfter 74 = .ok (.invokevirtual 368, 3) := by decide +kernel
theorem dX12_lostSleepAfter_77 : decode cX12_lostSleepAfter 77 = .ok (.iload_n 3, 1) := by decide +kernel
theorem dX12_lostSleepAfter_78 : decode cX12_lostSleepAfter 78 = .ok (.ireturn, 1) := by decide +kernel
abbrev M_X12_lostSleepAfter : aM := (yX12_lostSleepAfter.cls, cX12_lostSleepAfter, 4, (some .int), [], yX12_lostSleepAfter.name == "<init>")
abbrev J_X12_lostSleepAfter (l : Launch) (E : aE) (n0 m0 : Nat) := GG (fun (v : Int32) => .inl (some (.int v))) l E M_X12_lostSleepAfter 2 48 n0 m0
theorem b_X12_lostSleepAfter {l : Launch} {E : aE} (hl : l.stackTraces = false) (n0 m0 : Nat) (x1 : Nat) (x2 : Int32) (x3 : Int32) (h0 : aH) : J_X12_lostSleepAfter l E n0 m0 0 [(0, .ref (e_z E + x1)), (1, .int x2), (2, .int x3)] [] h0 (m_X12_lostSleepAfter x1 x2 x3 h0) := by
  unfold m_X12_lostSleepAfter
  refine g_aload_n (pc := 0) dX12_lostSleepAfter_0 0 rfl ?_
  refine g_aload_n (pc := 1) dX12_lostSleepAfter_1 0 rfl ?_
  refine g_iload_n (pc := 2) dX12_lostSleepAfter_2 1 rfl ?_
  refine g_gS (fun hs => ?_)
  refine g_bRi (pc := 3) (c_V cl12 hs (p_X12_isPerson hl x1 x2 h0) y_X12_isPerson tw1927 dX12_lostSleepAfter_3 rfl (st := [.ref (e_z E + x1)]) rfl (Nat.le_of_ble_eq_true rfl) (Nat.le_of_ble_eq_true rfl) (Nat.le_of_ble_eq_true rfl)) (fun x4 h1 => ?_)
  refine g_join (fun k => ∀ (x5 : Int32) (h2 : aH), J_X12_lostSleepAfter l E n0 m0 30 [(0, .ref (e_z E + x1)), (1, .int x2), (2, .int x3)] [.int x5, .ref (e_z E + x1)] h2 (k x5 h2)) (fun x5 h2 => ?_) (fun k30 hk30 => ?_)
  · refine g_puti (pc := 30) cl12 (Nat.le_of_ble_eq_true rfl) (Or.inl ⟨rfl, fk1551⟩) (fun _ _ _ => rfl) (fun _ => ⟨rfl, rfl⟩) dX12_lostSleepAfter_30 (fun h3 => ?_)
    refine g_aload_n (pc := 33) dX12_lostSleepAfter_33 0 rfl ?_
    refine g_geti (pc := 34) cl12 (Nat.le_of_ble_eq_true rfl) fk1551 (fun _ _ _ => rfl) dX12_lostSleepAfter_34 (fun x6 => ?_)
    refine g_ifle (pc := 37) (tgt := 42) dX12_lostSleepAfter_37 rfl ?_ ?_
    · refine g_aload_n (pc := 42) dX12_lostSleepAfter_42 0 rfl ?_
      refine g_gS (fun hs => ?_)
      refine g_bRv (pc := 43) (c_V cl12 hs (p_X12_lays hl x1 h3) y_X12_lays tw1944 dX12_lostSleepAfter_43 rfl (st := []) rfl (Nat.le_of_ble_eq_true rfl) (Nat.le_of_ble_eq_true rfl) (Nat.le_of_ble_eq_true rfl)) (fun _ h4 => ?_)
      refine g_iconst (pc := 46) dX12_lostSleepAfter_46 ci_0 ?_
      refine g_istore_n (pc := 47) (lv' := [(3, .int (0 : Int32)), (0, .ref (e_z E + x1)), (1, .int x2), (2, .int x3)]) dX12_lostSleepAfter_47 (Nat.le_of_ble_eq_true rfl) rfl ?_
      refine g_join (fun k => ∀ (h5 : aH), J_X12_lostSleepAfter l E n0 m0 64 [(0, .ref (e_z E + x1)), (1, .int x2)] [] h5 (k h5)) (fun h5 => ?_) (fun k64 hk64 => ?_)
      · refine g_aload_n (pc := 64) dX12_lostSleepAfter_64 0 rfl ?_
        refine g_getr (pc := 65) cl12 (Nat.le_of_ble_eq_true rfl) fk1552 (fun _ _ _ => rfl) dX12_lostSleepAfter_65 (fun x7 => ?_)
        refine g_iconst (pc := 68) dX12_lostSleepAfter_68 ci_2 ?_
        refine g_iload_n (pc := 69) dX12_lostSleepAfter_69 1 rfl ?_
        refine g_iadd (pc := 70) dX12_lostSleepAfter_70 ?_
        refine g_iald (pc := 71) dX12_lostSleepAfter_71 (fun x8 => ?_)
        refine g_istore_n (pc := 72) (lv' := [(3, .int x8), (0, .ref (e_z E + x1)), (1, .int x2)]) dX12_lostSleepAfter_72 (Nat.le_of_ble_eq_true rfl) rfl ?_
        refine g_aload_n (pc := 73) dX12_lostSleepAfter_73 1 rfl ?_
        refine g_gS (fun hs => ?_)
        refine g_bRv (pc := 74) (c_V cl12 hs (p_X12_takes hl x1 h5) y_X12_takes tw1956 dX12_lostSleepAfter_74 rfl (st := []) rfl (Nat.le_of_ble_eq_true rfl) (Nat.le_of_ble_eq_true rfl) (Nat.le_of_ble_eq_true rfl)) (fun _ h6 => ?_)
        refine g_iload_n (pc := 77) dX12_lostSleepAfter_77 0 rfl ?_
        exact g_ret (pc := 78) rfl (isRet_i _) dX12_lostSleepAfter_78 rfl
      refine g_lv [1, 2, 3, 0] rfl ?_
      refine g_loop1 (F := (m_X12_lostSleepAfter_L48 x1 x3 k64)) (fun x9 => [(0, .ref (e_z E + x1)), (1, .int x2), (2, .int x3), (3, .int x9)]) (fun r48 hr48 x9 h7 => ?_) _ _ _
      unfold m_X12_lostSleepAfter_L48
      refine g_iload_n (pc := 48) dX12_lostSleepAfter_48 3 rfl ?_
      refine g_iload_n (pc := 49) dX12_lostSleepAfter_49 2 rfl ?_
      refine g_icmpge (pc := 50) (tgt := 64) dX12_lostSleepAfter_50 rfl ?_ ?_
      · refine g_aload_n (pc := 53) dX12_lostSleepAfter_53 0 rfl ?_
        refine g_gS (fun hs => ?_)
        refine g_bRi (pc := 54) (c_V cl12 hs (p_X12_minute hl x1 h7) y_X12_minute tw1948 dX12_lostSleepAfter_54 rfl (st := []) rfl (Nat.le_of_ble_eq_true rfl) (Nat.le_of_ble_eq_true rfl) (Nat.le_of_ble_eq_true rfl)) (fun x10 h8 => ?_)
        refine g_pop (pc := 57) rfl dX12_lostSleepAfter_57 ?_
        refine g_iincN (pc := 58) dX12_lostSleepAfter_58 3 rfl ci_1 (Nat.le_of_ble_eq_true rfl) (fun x11 => ?_)
        refine g_lvr (lv' := [(3, .int x11), (0, .ref (e_z E + x1)), (1, .int x2), (2, .int x3)]) rfl ?_
        refine g_goto (pc := 61) (tgt := 48) dX12_lostSleepAfter_61 rfl ?_
        refine g_lv [1, 2, 3, 0] rfl ?_
        exact hr48 x11 h8
      · refine g_lv [0, 1] rfl ?_
        exact hk64 h7
    · refine g_iconst (pc := 40) dX12_lostSleepAfter_40 ci_0 ?_
      exact g_ret (pc := 41) rfl (isRet_i _) dX12_lostSleepAfter_41 rfl
  refine g_ifne (pc := 6) (tgt := 13) dX12_lostSleepAfter_6 rfl ?_ ?_
  · refine g_iconst (pc := 9) dX12_lostSleepAfter_9 ci_1 ?_
    refine g_goto (pc := 10) (tgt := 30) dX12_lostSleepAfter_10 rfl ?_
    exact hk30 (1 : Int32) h1
  · refine g_iload_n (pc := 13) dX12_lostSleepAfter_13 2 rfl ?_
    refine g_i2l (pc := 14) dX12_lostSleepAfter_14 ?_
    refine g_lconst (pc := 15) dX12_lostSleepAfter_15 cl_0 ?_
    refine g_ldc2 (pc := 16) tw1943 dX12_lostSleepAfter_16 ?_
    refine g_bRi (pc := 19) (c_S (p_X12_in hl (x3.toInt64) (0 : Int64) (1440 : Int64) h1) y_X12_in tw1782 dX12_lostSleepAfter_19 rfl (st := [.ref (e_z E + x1)]) rfl (Nat.le_of_ble_eq_true rfl) (Nat.le_of_ble_eq_true rfl) (Nat.le_of_ble_eq_true rfl)) (fun x12 h9 => ?_)
    refine g_ifeq (pc := 22) (tgt := 29) dX12_lostSleepAfter_22 rfl ?_ ?_
    · refine g_iconst (pc := 29) dX12_lostSleepAfter_29 ci_2 ?_
      exact hk30 (2 : Int32) h9
    · refine g_iconst (pc := 25) dX12_lostSleepAfter_25 ci_0 ?_
      refine g_goto (pc := 26) (tgt := 30) dX12_lostSleepAfter_26 rfl ?_
      exact hk30 (0 : Int32) h9
theorem p_X12_lostSleepAfter {l : Launch} {E : aE} (hl : l.stackTraces = false) (x1 : Nat) (x2 : Int32) (x3 : Int32) (h0 : aH) : MO (fun (v : Int32) => .inl (some (.int v))) l E yX12_lostSleepAfter (.code yX12_lostSleepAfter cX12_lostSleepAfter 4 (some .int)) 2 48 [.ref (e_z E + x1), .int x2, .int x3] h0 (m_X12_lostSleepAfter x1 x2 x3 h0) := g_met hl (by decide +kernel) (Nat.le_of_ble_eq_true rfl) (b_X12_lostSleepAfter hl _ _ x1 x2 x3 h0)
theorem dX12_restedAt_0 : decode cX12_restedAt 0 = .ok (.aload_n 0, 1) := by decide +kernel
theorem dX12_restedAt_1 : decode cX12_restedAt 1 = .ok (.aload_n 0, 1) := by decide +kernel
theorem dX12_restedAt_2 : decode cX12_restedAt 2 = .ok (.iload_n 1, 1) := by decide +kernel
theorem dX12_restedAt_3 : decode cX12_restedAt 3 = .ok (.invokevirtual 353, 3) := by decide +kernel
theorem dX12_restedAt_6 : decode cX12_restedAt 6 = .ok (.ifCond .eq 7, 3) := by decide +kernel
theorem dX12_restedAt_9 : decode cX12_restedAt 9 = .ok (.iconst 0, 1) := by decide +kernel
theorem dX12_restedAt_10 : decode cX12_restedAt 10 = .ok (.goto 4, 3) := by decide +kernel
theorem dX12_restedAt_13 : decode cX12_restedAt 13 = .ok (.iconst 1, 1) := by decide +kernel
theorem dX12_restedAt_14 : decode cX12_restedAt 14 = .ok (.putfield 166, 3) := by decide +kernel
theorem dX12_restedAt_17 : decode cX12_restedAt 17 = .ok (.aload_n 0, 1) := by decide +kernel
theorem dX12_restedAt_18 : decode cX12_restedAt 18 = .ok (.getfield 166, 3) := by decide +kernel
theorem dX12_restedAt_21 : decode cX12_restedAt 21 = .ok (.ifCond .le 5, 3) := by decide +kernel
theorem dX12_restedAt_24 : decode cX12_restedAt 24 = .ok (.iconst 0, 1) := by decide +kernel
theorem dX12_restedAt_25 : decode cX12_restedAt 25 = .ok (.ireturn, 1) := by decide +kernel
theorem dX12_restedAt_26 : decode cX12_restedAt 26 = .ok (.aload_n 0, 1) := by decide +kernel
theorem dX12_restedAt_27 : decode cX12_restedAt 27 = .ok (.invokevirtual 361, 3) := by decide +kernel
theorem dX12_restedAt_30 : decode cX12_restedAt 30 = .ok (.aload_n 0, 1) := by decide +kernel
theorem dX12_restedAt_31 : decode cX12_restedAt 31 = .ok (.iload_n 1, 1) := by decide +kernel
theorem dX12_restedAt_32 : decode cX12_restedAt 32 = .ok (.invokevirtual 371, 3) := by decide +kernel
theorem dX12_restedAt_35 : decode cX12_restedAt 35 = .ok (.ifCond .eq 23, 3) := by decide +kernel
theorem dX12_restedAt_38 : decode cX12_restedAt 38 = .ok (.aload_n 0, 1) := by decide +kernel
theorem dX12_restedAt_39 : decode cX12_restedAt 39 = .ok (.getfield 7, 3) := by decide +kernel
theorem dX12_restedAt_42 : decode cX12_restedAt 42 = .ok (.iconst 0, 1) := by decide +kernel
theorem dX12_restedAt_43 : decode cX12_restedAt 43 = .ok (.iaload, 1) := by decide +kernel
theorem dX12_restedAt_44 : decode cX12_restedAt 44 = .ok (.sipush 20160, 3) := by decide +kernel
theorem dX12_restedAt_47 : decode cX12_restedAt 47 = .ok (.if_icmp .ge 11, 3) := by decide +kernel
theorem dX12_restedAt_50 : decode cX12_restedAt 50 = .ok (.aload_n 0, 1) := by decide +kernel
theorem dX12_restedAt_51 : decode cX12_restedAt 51 = .ok (.invokevirtual 364, 3) := by decide +kernel
theorem dX12_restedAt_54 : decode cX12_restedAt 54 = .ok (.pop, 1) := by decide +kernel
theorem dX12_restedAt_55 : decode cX12_restedAt 55 = .ok (.goto (-25), 3) := by decide +kernel
theorem dX12_restedAt_58 : decode cX12_restedAt 58 = .ok (.aload_n 0, 1) := by decide +kernel
theorem dX12_restedAt_59 : decode cX12_restedAt 59 = .ok (.getfield 7, 3) := by decide +kernel
theorem dX12_restedAt_62 : decode cX12_restedAt 62 = .ok (.iconst 0, 1) := by decide +kernel
theorem dX12_restedAt_63 : decode cX12_restedAt 63 = .ok (.iaload, 1) := by decide +kernel
theorem dX12_restedAt_64 : decode cX12_restedAt 64 = .ok (.istore_n 2, 1) := by decide +kernel
theorem dX12_restedAt_65 : decode cX12_restedAt 65 = .ok (.aload_n 0, 1) := by decide +kernel
theorem dX12_restedAt_66 : decode cX12_restedAt 66 = .ok (.aload_n 0, 1) := by decide +kernel
theorem dX12_restedAt_67 : decode cX12_restedAt 67 = .ok (.iload_n 1, 1) := by decide +kernel
theorem dX12_restedAt_68 : decode cX12_restedAt 68 = .ok (.invokevirtual 371, 3) := by decide +kernel
theorem dX12_restedAt_71 : decode cX12_restedAt 71 = .ok (.ifCond .eq 7, 3) := by decide +kernel
theorem dX12_restedAt_74 : decode cX12_restedAt 74 = .ok (.iconst 2, 1) := by decide +kernel
theorem dX12_restedAt_75 : decode cX12_restedAt 75 = .ok (.goto 4, 3) := by decide +kernel
theorem dX12_restedAt_78 : decode cX12_restedAt 78 = .ok (.iconst 0, 1) := by decide +kernel
theorem dX12_restedAt_79 : decode cX12_restedAt 79 = .ok (.putfield 166, 3) := by decide +kernel
theorem dX12_restedAt_82 : decode cX12_restedAt 82 = .ok (.aload_n 0, 1) := by decide +kernel
theorem dX12_restedAt_83 : decode cX12_restedAt 83 = .ok (.invokevirtual 368, 3) := by decide +kernel
theorem dX12_restedAt_86 : decode cX12_restedAt 86 = .ok (.aload_n 0, 1) := by decide +kernel
theorem dX12_restedAt_87 : decode cX12_restedAt 87 = .ok (.getfield 166, 3) := by decide +kernel
theorem dX12_restedAt_90 : decode cX12_restedAt 90 = .ok (.ifCond .le 7, 3) := by decide +kernel
theorem dX12_restedAt_93 : decode cX12_restedAt 93 = .ok (.iconst 0, 1) := by decide +kernel
theorem dX12_restedAt_94 : decode cX12_restedAt 94 = .ok (.goto 4, 3) := by decide +kernel
theorem dX12_restedAt_97 : decode cX12_restedAt 97 = .ok (.iload_n 2, 1) := by decide +kernel
theorem dX12_restedAt_98 : decode cX12_restedAt 98 = .ok (.ireturn, 1) := by decide +kernel
abbrev M_X12_restedAt : aM := (yX12_restedAt.cls, cX12_restedAt, 3, (some .int), [], yX12_restedAt.name == "<init>")
abbrev J_X12_restedAt (l : Launch) (E : aE) (n0 m0 : Nat) := GG (fun (v : Int32) => .inl (some (.int v))) l E M_X12_restedAt 2 48 n0 m0
theorem b_X12_restedAt {l : Launch} {E : aE} (hl : l.stackTraces = false) (n0 m0 : Nat) (x1 : Nat) (x2 : Int32) (h0 : aH) : J_X12_restedAt l E n0 m0 0 [(0, .ref (e_z E + x1)), (1, .int x2)] [] h0 (m_X12_restedAt x1 x2 h0) := by
  unfold m_X12_restedAt
  refine g_aload_n (pc := 0) dX12_restedAt_0 0 rfl ?_
  refine g_aload_n (pc := 1) dX12_restedAt_1 0 rfl ?_
  refine g_iload_n (pc := 2) dX12_restedAt_2 1 rfl ?_
  refine g_gS (fun hs => ?_)
  refine g_bRi (pc := 3) (c_V cl12 hs (p_X12_isPerson hl x1 x2 h0) y_X12_isPerson tw1927 dX12_restedAt_3 rfl (st := [.ref (e_z E + x1)]) rfl (Nat.le_of_ble_eq_true rfl) (Nat.le_of_ble_eq_true rfl) (Nat.le_of_ble_eq_true rfl)) (fun x3 h1 => ?_)
  refine g_join (fun k => ∀ (x4 : Int32) (h2 : aH), J_X12_restedAt l E n0 m0 14 [(0, .ref (e_z E + x1)), (1, .int x2)] [.int x4, .ref (e_z E + x1)] h2 (k x4 h2)) (fun x4 h2 => ?_) (fun k14 hk14 => ?_)
  · refine g_puti (pc := 14) cl12 (Nat.le_of_ble_eq_true rfl) (Or.inl ⟨rfl, fk1551⟩) (fun _ _ _ => rfl) (fun _ => ⟨rfl, rfl⟩) dX12_restedAt_14 (fun h3 => ?_)
    refine g_aload_n (pc := 17) dX12_restedAt_17 0 rfl ?_
    refine g_geti (pc := 18) cl12 (Nat.le_of_ble_eq_true rfl) fk1551 (fun _ _ _ => rfl) dX12_restedAt_18 (fun x5 => ?_)
    refine g_ifle (pc := 21) (tgt := 26) dX12_restedAt_21 rfl ?_ ?_
    · refine g_aload_n (pc := 26) dX12_restedAt_26 0 rfl ?_
      refine g_gS (fun hs => ?_)
      refine g_bRv (pc := 27) (c_V cl12 hs (p_X12_lays hl x1 h3) y_X12_lays tw1944 dX12_restedAt_27 rfl (st := []) rfl (Nat.le_of_ble_eq_true rfl) (Nat.le_of_ble_eq_true rfl) (Nat.le_of_ble_eq_true rfl)) (fun _ h4 => ?_)
      refine g_join (fun k => ∀ (h5 : aH), J_X12_restedAt l E n0 m0 58 [(0, .ref (e_z E + x1)), (1, .int x2)] [] h5 (k h5)) (fun h5 => ?_) (fun k58 hk58 => ?_)
      · refine g_aload_n (pc := 58) dX12_restedAt_58 0 rfl ?_
        refine g_getr (pc := 59) cl12 (Nat.le_of_ble_eq_true rfl) fk1552 (fun _ _ _ => rfl) dX12_restedAt_59 (fun x6 => ?_)
        refine g_iconst (pc := 62) dX12_restedAt_62 ci_0 ?_
        refine g_iald (pc := 63) dX12_restedAt_63 (fun x7 => ?_)
        refine g_istore_n (pc := 64) (lv' := [(2, .int x7), (0, .ref (e_z E + x1)), (1, .int x2)]) dX12_restedAt_64 (Nat.le_of_ble_eq_true rfl) rfl ?_
        refine g_aload_n (pc := 65) dX12_restedAt_65 1 rfl ?_
        refine g_aload_n (pc := 66) dX12_restedAt_66 1 rfl ?_
        refine g_iload_n (pc := 67) dX12_restedAt_67 2 rfl ?_
        refine g_gS (fun hs => ?_)
        refine g_bRi (pc := 68) (c_V cl12 hs (p_X12_isTired hl x1 x2 h5) y_X12_isTired tw1964 dX12_restedAt_68 rfl (st := [.ref (e_z E + x1)]) rfl (Nat.le_of_ble_eq_true rfl) (Nat.le_of_ble_eq_true rfl) (Nat.le_of_ble_eq_true rfl)) (fun x8 h6 => ?_)
        refine g_join (fun k => ∀ (x9 : Int32) (h7 : aH), J_X12_restedAt l E n0 m0 79 [(0, .ref (e_z E + x1)), (2, .int x7)] [.int x9, .ref (e_z E + x1)] h7 (k x9 h7)) (fun x9 h7 => ?_) (fun k79 hk79 => ?_)
        · refine g_puti (pc := 79) cl12 (Nat.le_of_ble_eq_true rfl) (Or.inl ⟨rfl, fk1551⟩) (fun _ _ _ => rfl) (fun _ => ⟨rfl, rfl⟩) dX12_restedAt_79 (fun h8 => ?_)
          refine g_aload_n (pc := 82) dX12_restedAt_82 0 rfl ?_
          refine g_gS (fun hs => ?_)
          refine g_bRv (pc := 83) (c_V cl12 hs (p_X12_takes hl x1 h8) y_X12_takes tw1956 dX12_restedAt_83 rfl (st := []) rfl (Nat.le_of_ble_eq_true rfl) (Nat.le_of_ble_eq_true rfl) (Nat.le_of_ble_eq_true rfl)) (fun _ h9 => ?_)
          refine g_aload_n (pc := 86) dX12_restedAt_86 0 rfl ?_
          refine g_geti (pc := 87) cl12 (Nat.le_of_ble_eq_true rfl) fk1551 (fun _ _ _ => rfl) dX12_restedAt_87 (fun x10 => ?_)
          refine g_join (fun k => ∀ (x11 : Int32) (h10 : aH), J_X12_restedAt l E n0 m0 98 [] [.int x11] h10 (k x11 h10)) (fun x11 h10 => ?_) (fun k98 hk98 => ?_)
          · exact g_ret (pc := 98) rfl (isRet_i _) dX12_restedAt_98 rfl
          refine g_ifle (pc := 90) (tgt := 97) dX12_restedAt_90 rfl ?_ ?_
          · refine g_iload_n (pc := 97) dX12_restedAt_97 1 rfl ?_
            refine g_lv [] rfl ?_
            exact hk98 x7 h9
          · refine g_iconst (pc := 93) dX12_restedAt_93 ci_0 ?_
            refine g_goto (pc := 94) (tgt := 98) dX12_restedAt_94 rfl ?_
            refine g_lv [] rfl ?_
            exact hk98 (0 : Int32) h9
        refine g_ifeq (pc := 71) (tgt := 78) dX12_restedAt_71 rfl ?_ ?_
        · refine g_iconst (pc := 78) dX12_restedAt_78 ci_0 ?_
          refine g_lv [1, 0] rfl ?_
          exact hk79 (0 : Int32) h6
        · refine g_iconst (pc := 74) dX12_restedAt_74 ci_2 ?_
          refine g_goto (pc := 75) (tgt := 79) dX12_restedAt_75 rfl ?_
          refine g_lv [1, 0] rfl ?_
          exact hk79 (2 : Int32) h6
      refine g_loop0 (F := (m_X12_restedAt_L30 x1 x2 k58)) ([(0, .ref (e_z E + x1)), (1, .int x2)]) (fun r30 hr30 h11 => ?_) _ _
      unfold m_X12_restedAt_L30
      refine g_aload_n (pc := 30) dX12_restedAt_30 0 rfl ?_
      refine g_iload_n (pc := 31) dX12_restedAt_31 1 rfl ?_
      refine g_gS (fun hs => ?_)
      refine g_bRi (pc := 32) (c_V cl12 hs (p_X12_isTired hl x1 x2 h11) y_X12_isTired tw1964 dX12_restedAt_32 rfl (st := []) rfl (Nat.le_of_ble_eq_true rfl) (Nat.le_of_ble_eq_true rfl) (Nat.le_of_ble_eq_true rfl)) (fun x12 h12 => ?_)
      refine g_ifeq (pc := 35) (tgt := 58) dX12_restedAt_35 rfl ?_ ?_
      · exact hk58 h12
      · refine g_aload_n (pc := 38) dX12_restedAt_38 0 rfl ?_
        refine g_getr (pc := 39) cl12 (Nat.le_of_ble_eq_true rfl) fk1552 (fun _ _ _ => rfl) dX12_restedAt_39 (fun x13 => ?_)
        refine g_iconst (pc := 42) dX12_restedAt_42 ci_0 ?_
        refine g_iald (pc := 43) dX12_restedAt_43 (fun x14 => ?_)
        refine g_sipush (pc := 44) dX12_restedAt_44 cs_20160 ?_
        refine g_icmpge (pc := 47) (tgt := 58) dX12_restedAt_47 rfl ?_ ?_
        · refine g_aload_n (pc := 50) dX12_restedAt_50 0 rfl ?_
          refine g_gS (fun hs => ?_)
          refine g_bRi (pc := 51) (c_V cl12 hs (p_X12_minute hl x1 h12) y_X12_minute tw1948 dX12_restedAt_51 rfl (st := []) rfl (Nat.le_of_ble_eq_true rfl) (Nat.le_of_ble_eq_true rfl) (Nat.le_of_ble_eq_true rfl)) (fun x15 h13 => ?_)
          refine g_pop (pc := 54) rfl dX12_restedAt_54 ?_
          refine g_goto (pc := 55) (tgt := 30) dX12_restedAt_55 rfl ?_
          exact hr30 h13
        · exact hk58 h12
    · refine g_iconst (pc := 24) dX12_restedAt_24 ci_0 ?_
      exact g_ret (pc := 25) rfl (isRet_i _) dX12_restedAt_25 rfl
  refine g_ifeq (pc := 6) (tgt := 13) dX12_restedAt_6 rfl ?_ ?_
  · refine g_iconst (pc := 13) dX12_restedAt_13 ci_1 ?_
    exact hk14 (1 : Int32) h1
  · refine g_iconst (pc := 9) dX12_restedAt_9 ci_0 ?_
    refine g_goto (pc := 10) (tgt := 14) dX12_restedAt_10 rfl ?_
    exact hk14 (0 : Int32) h1
theorem p_X12_restedAt {l : Launch} {E : aE} (hl : l.stackTraces = false) (x1 : Nat) (x2 : Int32) (h0 : aH) : MO (fun (v : Int32) => .inl (some (.int v))) l E yX12_restedAt (.code yX12_restedAt cX12_restedAt 3 (some .int)) 2 48 [.ref (e_z E + x1), .int x2] h0 (m_X12_restedAt x1 x2 h0) := g_met hl (by decide +kernel) (Nat.le_of_ble_eq_true rfl) (b_X12_restedAt hl _ _ x1 x2 h0)
theorem dX12_arrival_0 : decode cX12_arrival 0 = .ok (.aload_n 0, 1) := by decide +kernel
theorem dX12_arrival_1 : decode cX12_arrival 1 = .ok (.aload_n 0, 1) := by decide +kernel
theorem dX12_arrival_2 : decode cX12_arrival 2 = .ok (.iload_n 1, 1) := by decide +kernel
theorem dX12_arrival_3 : decode cX12_arrival 3 = .ok (.invokevirtual 353, 3) := by decide +kernel
theorem dX12_arrival_6 : decode cX12_arrival 6 = .ok (.ifCond .eq 7, 3) := by decide +kernel
theorem dX12_arrival_9 : decode cX12_arrival 9 = .ok (.iconst 0, 1) := by decide +kernel
theorem dX12_arrival_10 : decode cX12_arrival 10 = .ok (.goto 4, 3) := by decide +kernel
theorem dX12_arrival_13 : decode cX12_arrival 13 = .ok (.iconst 1, 1) := by decide +kernel
theorem dX12_arrival_14 : decode cX12_arrival 14 = .ok (.putfield 166, 3) := by decide +kernel
theorem dX12_arrival_17 : decode cX12_arrival 17 = .ok (.aload_n 0, 1) := by decide +kernel
theorem dX12_arrival_18 : decode cX12_arrival 18 = .ok (.getfield 166, 3) := by decide +kernel
theorem dX12_arrival_21 : decode cX12_arrival 21 = .ok (.ifCond .le 7, 3) := by decide +kernel
theorem dX12_arrival_24 : decode cX12_arrival 24 = .ok (.iconst 0, 1) := by decide +kernel
theorem dX12_arrival_25 : decode cX12_arrival 25 = .ok (.goto 8, 3) := by decide +kernel
theorem dX12_arrival_28 : decode cX12_arrival 28 = .ok (.aload_n 0, 1) := by decide +kernel
theorem dX12_arrival_29 : decode cX12_arrival 29 = .ok (.iload_n 1, 1) := by decide +kernel
theorem dX12_arrival_30 : decode cX12_arrival 30 = .ok (.invokevirtual 374, 3) := by decide +kernel
theorem dX12_arrival_33 : decode cX12_arrival 33 = .ok (.ireturn, 1) := by decide +kernel
abbrev M_X12_arrival : aM := (yX12_arrival.cls, cX12_arrival, 2, (some .int), [], yX12_arrival.name == "<init>")
abbrev J_X12_arrival (l : Launch) (E : aE) (n0 m0 : Nat) := GG (fun (v : Int32) => .inl (some (.int v))) l E M_X12_arrival 2 46 n0 m0
theorem b_X12_arrival {l : Launch} {E : aE} (hl : l.stackTraces = false) (n0 m0 : Nat) (x1 : Nat) (x2 : Int32) (h0 : aH) : J_X12_arrival l E n0 m0 0 [(0, .ref (e_z E + x1)), (1, .int x2)] [] h0 (m_X12_arrival x1 x2 h0) := by
  unfold m_X12_arrival
  refine g_aload_n (pc := 0) dX12_arrival_0 0 rfl ?_
  refine g_aload_n (pc := 1) dX12_arrival_1 0 rfl ?_
  refine g_iload_n (pc := 2) dX12_arrival_2 1 rfl ?_
  refine g_gS (fun hs => ?_)
  refine g_bRi (pc := 3) (c_V cl12 hs (p_X12_isPerson hl x1 x2 h0) y_X12_isPerson tw1927 dX12_arrival_3 rfl (st := [.ref (e_z E + x1)]) rfl (Nat.le_of_ble_eq_true rfl) (Nat.le_of_ble_eq_true rfl) (Nat.le_of_ble_eq_true rfl)) (fun x3 h1 => ?_)
  refine g_join (fun k => ∀ (x4 : Int32) (h2 : aH), J_X12_arrival l E n0 m0 14 [(0, .ref (e_z E + x1)), (1, .int x2)] [.int x4, .ref (e_z E + x1)] h2 (k x4 h2)) (fun x4 h2 => ?_) (fun k14 hk14 => ?_)
  · refine g_puti (pc := 14) cl12 (Nat.le_of_ble_eq_true rfl) (Or.inl ⟨rfl, fk1551⟩) (fun _ _ _ => rfl) (fun _ => ⟨rfl, rfl⟩) dX12_arrival_14 (fun h3 => ?_)
    refine g_aload_n (pc := 17) dX12_arrival_17 0 rfl ?_
    refine g_geti (pc := 18) cl12 (Nat.le_of_ble_eq_true rfl) fk1551 (fun _ _ _ => rfl) dX12_arrival_18 (fun x5 => ?_)
    refine g_join (fun k => ∀ (x6 : Int32) (h4 : aH), J_X12_arrival l E n0 m0 33 [] [.int x6] h4 (k x6 h4)) (fun x6 h4 => ?_) (fun k33 hk33 => ?_)
    · exact g_ret (pc := 33) rfl (isRet_i _) dX12_arrival_33 rfl
    refine g_ifle (pc := 21) (tgt := 28) dX12_arrival_21 rfl ?_ ?_
    · refine g_aload_n (pc := 28) dX12_arrival_28 0 rfl ?_
      refine g_iload_n (pc := 29) dX12_arrival_29 1 rfl ?_
      refine g_gS (fun hs => ?_)
      refine g_bRi (pc := 30) (c_V cl12 hs (p_X12_arrivalOf hl x1 x2 h3) y_X12_arrivalOf tw1972 dX12_arrival_30 rfl (st := []) rfl (Nat.le_of_ble_eq_true rfl) (Nat.le_of_ble_eq_true rfl) (Nat.le_of_ble_eq_true rfl)) (fun x7 h5 => ?_)
      refine g_lv [] rfl ?_
      exact hk33 x7 h5
    · refine g_iconst (pc := 24) dX12_arrival_24 ci_0 ?_
      refine g_goto (pc := 25) (tgt := 33) dX12_arrival_25 rfl ?_
      refine g_lv [] rfl ?_
      exact hk33 (0 : Int32) h3
  refine g_ifeq (pc := 6) (tgt := 13) dX12_arrival_6 rfl ?_ ?_
  · refine g_iconst (pc := 13) dX12_arrival_13 ci_1 ?_
    exact hk14 (1 : Int32) h1
  · refine g_iconst (pc := 9) dX12_arrival_9 ci_0 ?_
    refine g_goto (pc := 10) (tgt := 14) dX12_arrival_10 rfl ?_
    exact hk14 (0 : Int32) h1
theorem p_X12_arrival {l : Launch} {E : aE} (hl : l.stackTraces = false) (x1 : Nat) (x2 : Int32) (h0 : aH) : MO (fun (v : Int32) => .inl (some (.int v))) l E yX12_arrival (.code yX12_arrival cX12_arrival 2 (some .int)) 2 46 [.ref (e_z E + x1), .int x2] h0 (m_X12_arrival x1 x2 h0) := g_met hl (by decide +kernel) (Nat.le_of_ble_eq_true rfl) (b_X12_arrival hl _ _ x1 x2 h0)
theorem dX12_pay_0 : decode cX12_pay 0 = .ok (.aload_n 0, 1) := by decide +kernel
theorem dX12_pay_1 : decode cX12_pay 1 = .ok (.aload_n 0, 1) := by decide +kernel
theorem dX12_pay_2 : decode cX12_pay 2 = .ok (.iload_n 1, 1) := by decide +kernel
theorem dX12_pay_3 : decode cX12_pay 3 = .ok (.invokevirtual 353, 3) := by decide +kernel
theorem dX12_pay_6 : decode cX12_pay 6 = .ok (.ifCond .eq 7, 3) := by decide +kernel
theorem dX12_pay_9 : decode cX12_pay 9 = .ok (.iconst 0, 1) := by decide +kernel
theorem dX12_pay_10 : decode cX12_pay 10 = .ok (.goto 4, 3) := by decide +kernel
theorem dX12_pay_13 : decode cX12_pay 13 = .ok (.iconst 1, 1) := by decide +kernel
theorem dX12_pay_14 : decode cX12_pay 14 = .ok (.putfield 166, 3) := by decide +kernel
theorem dX12_pay_17 : decode cX12_pay 17 = .ok (.aload_n 0, 1) := by decide +kernel
theorem dX12_pay_18 : decode cX12_pay 18 = .ok (.getfield 166, 3) := by decide +kernel
theorem dX12_pay_21 : decode cX12_pay 21 = .ok (.ifCond .le 7, 3) := by decide +kernel
theorem dX12_pay_24 : decode cX12_pay 24 = .ok (.iconst 0, 1) := by decide +kernel
theorem dX12_pay_25 : decode cX12_pay 25 = .ok (.goto 12, 3) := by decide +kernel
theorem dX12_pay_28 : decode cX12_pay 28 = .ok (.aload_n 0, 1) := by decide +kernel
theorem dX12_pay_29 : decode cX12_pay 29 = .ok (.getfield 7, 3) := by decide +kernel
theorem dX12_pay_32 : decode cX12_pay 32 = .ok (.bipush 38, 2) := by decide +kernel
theorem dX12_pay_34 : decode cX12_pay 34 = .ok (.iload_n 1, 1) := by decide +kernel
theorem dX12_pay_35 : decode cX12_pay 35 = .ok (.iadd, 1) := by decide +kernel
theorem dX12_pay_36 : decode cX12_pay 36 = .ok (.iaload, 1) := by decide +kernel
theorem dX12_pay_37 : decode cX12_pay 37 = .ok (.ireturn, 1) := by decide +kernel
abbrev M_X12_pay : aM := (yX12_pay.cls, cX12_pay, 2, (some .int), [], yX12_pay.name == "<init>")
abbrev J_X12_pay (l : Launch) (E : aE) (n0 m0 : Nat) := GG (fun (v : Int32) => .inl (some (.int v))) l E M_X12_pay 2 46 n0 m0
theorem b_X12_pay {l : Launch} {E : aE} (hl : l.stackTraces = false) (n0 m0 : Nat) (x1 : Nat) (x2 : Int32) (h0 : aH) : J_X12_pay l E n0 m0 0 [(0, .ref (e_z E + x1)), (1, .int x2)] [] h0 (m_X12_pay x1 x2 h0) := by
  unfold m_X12_pay
  refine g_aload_n (pc := 0) dX12_pay_0 0 rfl ?_
  refine g_aload_n (pc := 1) dX12_pay_1 0 rfl ?_
  refine g_iload_n (pc := 2) dX12_pay_2 1 rfl ?_
  refine g_gS (fun hs => ?_)
  refine g_bRi (pc := 3) (c_V cl12 hs (p_X12_isPerson hl x1 x2 h0) y_X12_isPerson tw1927 dX12_pay_3 rfl (st := [.ref (e_z E + x1)]) rfl (Nat.le_of_ble_eq_true rfl) (Nat.le_of_ble_eq_true rfl) (Nat.le_of_ble_eq_true rfl)) (fun x3 h1 => ?_)
  refine g_join (fun k => ∀ (x4 : Int32) (h2 : aH), J_X12_pay l E n0 m0 14 [(0, .ref (e_z E + x1)), (1, .int x2)] [.int x4, .ref (e_z E + x1)] h2 (k x4 h2)) (fun x4 h2 => ?_) (fun k14 hk14 => ?_)
  · refine g_puti (pc := 14) cl12 (Nat.le_of_ble_eq_true rfl) (Or.inl ⟨rfl, fk1551⟩) (fun _ _ _ => rfl) (fun _ => ⟨rfl, rfl⟩) dX12_pay_14 (fun h3 => ?_)
    refine g_aload_n (pc := 17) dX12_pay_17 0 rfl ?_
    refine g_geti (pc := 18) cl12 (Nat.le_of_ble_eq_true rfl) fk1551 (fun _ _ _ => rfl) dX12_pay_18 (fun x5 => ?_)
    refine g_join (fun k => ∀ (x6 : Int32) (h4 : aH), J_X12_pay l E n0 m0 37 [] [.int x6] h4 (k x6 h4)) (fun x6 h4 => ?_) (fun k37 hk37 => ?_)
    · exact g_ret (pc := 37) rfl (isRet_i _) dX12_pay_37 rfl
    refine g_ifle (pc := 21) (tgt := 28) dX12_pay_21 rfl ?_ ?_
    · refine g_aload_n (pc := 28) dX12_pay_28 0 rfl ?_
      refine g_getr (pc := 29) cl12 (Nat.le_of_ble_eq_true rfl) fk1552 (fun _ _ _ => rfl) dX12_pay_29 (fun x7 => ?_)
      refine g_bipush (pc := 32) dX12_pay_32 cb_38 ?_
      refine g_iload_n (pc := 34) dX12_pay_34 1 rfl ?_
      refine g_iadd (pc := 35) dX12_pay_35 ?_
      refine g_iald (pc := 36) dX12_pay_36 (fun x8 => ?_)
      refine g_lv [] rfl ?_
      exact hk37 x8 h3
    · refine g_iconst (pc := 24) dX12_pay_24 ci_0 ?_
      refine g_goto (pc := 25) (tgt := 37) dX12_pay_25 rfl ?_
      refine g_lv [] rfl ?_
      exact hk37 (0 : Int32) h3
  refine g_ifeq (pc := 6) (tgt := 13) dX12_pay_6 rfl ?_ ?_
  · refine g_iconst (pc := 13) dX12_pay_13 ci_1 ?_
    exact hk14 (1 : Int32) h1
  · refine g_iconst (pc := 9) dX12_pay_9 ci_0 ?_
    refine g_goto (pc := 10) (tgt := 14) dX12_pay_10 rfl ?_
    exact hk14 (0 : Int32) h1
theorem p_X12_pay {l : Launch} {E : aE} (hl : l.stackTraces = false) (x1 : Nat) (x2 : Int32) (h0 : aH) : MO (fun (v : Int32) => .inl (some (.int v))) l E yX12_pay (.code yX12_pay cX12_pay 2 (some .int)) 2 46 [.ref (e_z E + x1), .int x2] h0 (m_X12_pay x1 x2 h0) := g_met hl (by decide +kernel) (Nat.le_of_ble_eq_true rfl) (b_X12_pay hl _ _ x1 x2 h0)
theorem dX12_isCouple_0 : decode cX12_isCouple 0 = .ok (.aload_n 0, 1) := by decide +kernel
theorem dX12_isCouple_1 : decode cX12_isCouple 1 = .ok (.aload_n 0, 1) := by decide +kernel
theorem dX12_isCouple_2 : decode cX12_isCouple 2 = .ok (.iload_n 1, 1) := by decide +kernel
theorem dX12_isCouple_3 : decode cX12_isCouple 3 = .ok (.invokevirtual 353, 3) := by decide +kernel
theorem dX12_isCouple_6 : decode cX12_isCouple 6 = .ok (.ifCond .eq 11, 3) := by decide +kernel
theorem dX12_isCouple_9 : decode cX12_isCouple 9 = .ok (.aload_n 0, 1) := by decide +kernel
theorem dX12_isCouple_10 : decode cX12_isCouple 10 = .ok (.iload_n 2, 1) := by decide +kernel
theorem dX12_isCouple_11 : decode cX12_isCouple 11 = .ok (.invokevirtual 353, 3) := by decide +kernel
theorem dX12_isCouple_14 : decode cX12_isCouple 14 = .ok (.ifCond .ne 7, 3) := by decide +kernel
theorem dX12_isCouple_17 : decode cX12_isCouple 17 = .ok (.iconst 1, 1) := by decide +kernel
theorem dX12_isCouple_18 : decode cX12_isCouple 18 = .ok (.goto 13, 3) := by decide +kernel
theorem dX12_isCouple_21 : decode cX12_isCouple 21 = .ok (.iload_n 1, 1) := by decide +kernel
theorem dX12_isCouple_22 : decode cX12_isCouple 22 = .ok (.iload_n 2, 1) := by decide +kernel
theorem dX12_isCouple_23 : decode cX12_isCouple 23 = .ok (.if_icmp .ne 7, 3) := by decide +kernel
theorem dX12_isCouple_26 : decode cX12_isCouple 26 = .ok (.iconst 2, 1) := by decide +kernel
theorem dX12_isCouple_27 : decode cX12_isCouple 27 = .ok (.goto 4, 3) := by decide +kernel
theorem dX12_isCouple_30 : decode cX12_isCouple 30 = .ok (.iconst 0, 1) := by decide +kernel
theorem dX12_isCouple_31 : decode cX12_isCouple 31 = .ok (.putfield 166, 3) := by decide +kernel
theorem dX12_isCouple_34 : decode cX12_isCouple 34 = .ok (.aload_n 0, 1) := by decide +kernel
theorem dX12_isCouple_35 : decode cX12_isCouple 35 = .ok (.getfield 166, 3) := by decide +kernel
theorem dX12_isCouple_38 : decode cX12_isCouple 38 = .ok (.ifCond .ne 7, 3) := by decide +kernel
theorem dX12_isCouple_41 : decode cX12_isCouple 41 = .ok (.iconst 1, 1) := by decide +kernel
theorem dX12_isCouple_42 : decode cX12_isCouple 42 = .ok (.goto 4, 3) := by decide +kernel
theorem dX12_isCouple_45 : decode cX12_isCouple 45 = .ok (.iconst 0, 1) := by decide +kernel
theorem dX12_isCouple_46 : decode cX12_isCouple 46 = .ok (.ireturn, 1) := by decide +kernel
abbrev M_X12_isCouple : aM := (yX12_isCouple.cls, cX12_isCouple, 3, (some .boolean), [], yX12_isCouple.name == "<init>")
abbrev J_X12_isCouple (l : Launch) (E : aE) (n0 m0 : Nat) := GG (fun (v : Int32) => .inl (some (.int v))) l E M_X12_isCouple 2 46 n0 m0
theorem b_X12_isCouple {l : Launch} {E : aE} (hl : l.stackTraces = false) (n0 m0 : Nat) (x1 : Nat) (x2 : Int32) (x3 : Int32) (h0 : aH) : J_X12_isCouple l E n0 m0 0 [(0, .ref (e_z E + x1)), (1, .int x2), (2, .int x3)] [] h0 (m_X12_isCouple x1 x2 x3 h0) := by
  unfold m_X12_isCouple
  refine g_aload_n (pc := 0) dX12_isCouple_0 0 rfl ?_
  refine g_aload_n (pc := 1) dX12_isCouple_1 0 rfl ?_
  refine g_iload_n (pc := 2) dX12_isCouple_2 1 rfl ?_
  refine g_gS (fun hs => ?_)
  refine g_bRi (pc := 3) (c_V cl12 hs (p_X12_isPerson hl x1 x2 h0) y_X12_isPerson tw1927 dX12_isCouple_3 rfl (st := [.ref (e_z E + x1)]) rfl (Nat.le_of_ble_eq_true rfl) (Nat.le_of_ble_eq_true rfl) (Nat.le_of_ble_eq_true rfl)) (fun x4 h1 => ?_)
  refine g_join (fun k => ∀ (x5 : Int32) (h2 : aH), J_X12_isCouple l E n0 m0 31 [(0, .ref (e_z E + x1))] [.int x5, .ref (e_z E + x1)] h2 (k x5 h2)) (fun x5 h2 => ?_) (fun k31 hk31 => ?_)
  · refine g_puti (pc := 31) cl12 (Nat.le_of_ble_eq_true rfl) (Or.inl ⟨rfl, fk1551⟩) (fun _ _ _ => rfl) (fun _ => ⟨rfl, rfl⟩) dX12_isCouple_31 (fun h3 => ?_)
    refine g_aload_n (pc := 34) dX12_isCouple_34 0 rfl ?_
    refine g_geti (pc := 35) cl12 (Nat.le_of_ble_eq_true rfl) fk1551 (fun _ _ _ => rfl) dX12_isCouple_35 (fun x6 => ?_)
    refine g_join (fun k => ∀ (x7 : Int32) (h4 : aH), J_X12_isCouple l E n0 m0 46 [] [.int x7] h4 (k x7 h4)) (fun x7 h4 => ?_) (fun k46 hk46 => ?_)
    · refine g_zO (fun hz => ?_)
      exact g_ret (pc := 46) rfl (isRet_z hz) dX12_isCouple_46 rfl
    refine g_ifne (pc := 38) (tgt := 45) dX12_isCouple_38 rfl ?_ ?_
    · refine g_iconst (pc := 41) dX12_isCouple_41 ci_1 ?_
      refine g_goto (pc := 42) (tgt := 46) dX12_isCouple_42 rfl ?_
      refine g_lv [] rfl ?_
      exact hk46 (1 : Int32) h3
    · refine g_iconst (pc := 45) dX12_isCouple_45 ci_0 ?_
      refine g_lv [] rfl ?_
      exact hk46 (0 : Int32) h3
  refine g_join (fun k => ∀ (h5 : aH), J_X12_isCouple l E n0 m0 17 [(0, .ref (e_z E + x1))] [.ref (e_z E + x1)] h5 (k h5)) (fun h5 => ?_) (fun k17 hk17 => ?_)
  · refine g_iconst (pc := 17) dX12_isCouple_17 ci_1 ?_
    refine g_goto (pc := 18) (tgt := 31) dX12_isCouple_18 rfl ?_
    exact hk31 (1 : Int32) h5
  refine g_ifeq (pc := 6) (tgt := 17) dX12_isCouple_6 rfl ?_ ?_
  · refine g_lv [0] rfl ?_
    exact hk17 h1
  · refine g_aload_n (pc := 9) dX12_isCouple_9 0 rfl ?_
    refine g_iload_n (pc := 10) dX12_isCouple_10 2 rfl ?_
    refine g_gS (fun hs => ?_)
    refine g_bRi (pc := 11) (c_V cl12 hs (p_X12_isPerson hl x1 x3 h1) y_X12_isPerson tw1927 dX12_isCouple_11 rfl (st := [.ref (e_z E + x1)]) rfl (Nat.le_of_ble_eq_true rfl) (Nat.le_of_ble_eq_true rfl) (Nat.le_of_ble_eq_true rfl)) (fun x9 h6 => ?_)
    refine g_ifne (pc := 14) (tgt := 21) dX12_isCouple_14 rfl ?_ ?_
    · refine g_lv [0] rfl ?_
      exact hk17 h6
    · refine g_iload_n (pc := 21) dX12_isCouple_21 1 rfl ?_
      refine g_iload_n (pc := 22) dX12_isCouple_22 2 rfl ?_
      refine g_icmpne (pc := 23) (tgt := 30) dX12_isCouple_23 rfl ?_ ?_
      · refine g_iconst (pc := 26) dX12_isCouple_26 ci_2 ?_
        refine g_goto (pc := 27) (tgt := 31) dX12_isCouple_27 rfl ?_
        refine g_lv [0] rfl ?_
        exact hk31 (2 : Int32) h6
      · refine g_iconst (pc := 30) dX12_isCouple_30 ci_0 ?_
        refine g_lv [0] rfl ?_
        exact hk31 (0 : Int32) h6
theorem p_X12_isCouple {l : Launch} {E : aE} (hl : l.stackTraces = false) (x1 : Nat) (x2 : Int32) (x3 : Int32) (h0 : aH) : MO (fun (v : Int32) => .inl (some (.int v))) l E yX12_isCouple (.code yX12_isCouple cX12_isCouple 3 (some .boolean)) 2 46 [.ref (e_z E + x1), .int x2, .int x3] h0 (m_X12_isCouple x1 x2 x3 h0) := g_met hl (by decide +kernel) (Nat.le_of_ble_eq_true rfl) (b_X12_isCouple hl _ _ x1 x2 x3 h0)
theorem dX12_trust__0 : decode cX12_trust_ 0 = .ok (.aload_n 0, 1) := by decide +kernel
theorem dX12_trust__1 : decode cX12_trust_ 1 = .ok (.iload_n 1, 1) := by decide +kernel
theorem dX12_trust__2 : decode cX12_trust_ 2 = .ok (.iload_n 2, 1) := by decide +kernel
theorem dX12_trust__3 : decode cX12_trust_ 3 = .ok (.invokevirtual 378, 3) := by decide +kernel
theorem dX12_trust__6 : decode cX12_trust_ 6 = .ok (.ifCond .eq 20, 3) := by decide +kernel
theorem dX12_trust__9 : decode cX12_trust_ 9 = .ok (.aload_n 0, 1) := by decide +kernel
theorem dX12_trust__10 : decode cX12_trust_ 10 = .ok (.getfield 7, 3) := by decide +kernel
theorem dX12_trust__13 : decode cX12_trust_ 13 = .ok (.bipush 50, 2) := by decide +kernel
theorem dX12_trust__15 : decode cX12_trust_ 15 = .ok (.bipush 12, 2) := by decide +kernel
theorem dX12_trust__17 : decode cX12_trust_ 17 = .ok (.iload_n 1, 1) := by decide +kernel
theorem dX12_trust__18 : decode cX12_trust_ 18 = .ok (.imul, 1) := by decide +kernel
theorem dX12_trust__19 : decode cX12_trust_ 19 = .ok (.iadd, 1) := by decide +kernel
theorem dX12_trust__20 : decode cX12_trust_ 20 = .ok (.iload_n 2, 1) := by decide +kernel
theorem dX12_trust__21 : decode cX12_trust_ 21 = .ok (.iadd, 1) := by decide +kernel
theorem dX12_trust__22 : decode cX12_trust_ 22 = .ok (.iaload, 1) := by decide +kernel
theorem dX12_trust__23 : decode cX12_trust_ 23 = .ok (.goto 4, 3) := by decide +kernel
theorem dX12_trust__26 : decode cX12_trust_ 26 = .ok (.iconst 0, 1) := by decide +kernel
theorem dX12_trust__27 : decode cX12_trust_ 27 = .ok (.ireturn, 1) := by decide +kernel
abbrev M_X12_trust_ : aM := (yX12_trust_.cls, cX12_trust_, 3, (some .int), [], yX12_trust_.name == "<init>")
abbrev J_X12_trust_ (l : Launch) (E : aE) (n0 m0 : Nat) := GG (fun (v : Int32) => .inl (some (.int v))) l E M_X12_trust_ 3 68 n0 m0
theorem b_X12_trust_ {l : Launch} {E : aE} (hl : l.stackTraces = false) (n0 m0 : Nat) (x1 : Nat) (x2 : Int32) (x3 : Int32) (h0 : aH) : J_X12_trust_ l E n0 m0 0 [(0, .ref (e_z E + x1)), (1, .int x2), (2, .int x3)] [] h0 (m_X12_trust_ x1 x2 x3 h0) := by
  unfold m_X12_trust_
  refine g_aload_n (pc := 0) dX12_trust__0 0 rfl ?_
  refine g_iload_n (pc := 1) dX12_trust__1 1 rfl ?_
  refine g_iload_n (pc := 2) dX12_trust__2 2 rfl ?_
  refine g_gS (fun hs => ?_)
  refine g_bRi (pc := 3) (c_V cl12 hs (p_X12_isCouple hl x1 x2 x3 h0) y_X12_isCouple tw1984 dX12_trust__3 rfl (st := []) rfl (Nat.le_of_ble_eq_true rfl) (Nat.le_of_ble_eq_true rfl) (Nat.le_of_ble_eq_true rfl)) (fun x4 h1 => ?_)
  refine g_join (fun k => ∀ (x5 : Int32) (h2 : aH), J_X12_trust_ l E n0 m0 27 [] [.int x5] h2 (k x5 h2)) (fun x5 h2 => ?_) (fun k27 hk27 => ?_)
  · exact g_ret (pc := 27) rfl (isRet_i _) dX12_trust__27 rfl
  refine g_ifeq (pc := 6) (tgt := 26) dX12_trust__6 rfl ?_ ?_
  · refine g_iconst (pc := 26) dX12_trust__26 ci_0 ?_
    refine g_lv [] rfl ?_
    exact hk27 (0 : Int32) h1
  · refine g_aload_n (pc := 9) dX12_trust__9 0 rfl ?_
    refine g_getr (pc := 10) cl12 (Nat.le_of_ble_eq_true rfl) fk1552 (fun _ _ _ => rfl) dX12_trust__10 (fun x6 => ?_)
    refine g_bipush (pc := 13) dX12_trust__13 cb_50 ?_
    refine g_bipush (pc := 15) dX12_trust__15 cb_12 ?_
    refine g_iload_n (pc := 17) dX12_trust__17 1 rfl ?_
    refine g_imul (pc := 18) dX12_trust__18 ?_
    refine g_iadd (pc := 19) dX12_trust__19 ?_
    refine g_iload_n (pc := 20) dX12_trust__20 2 rfl ?_
    refine g_iadd (pc := 21) dX12_trust__21 ?_
    refine g_iald (pc := 22) dX12_trust__22 (fun x7 => ?_)
    refine g_goto (pc := 23) (tgt := 27) dX12_trust__23 rfl ?_
    refine g_lv [] rfl ?_
    exact hk27 x7 h1
theorem p_X12_trust_ {l : Launch} {E : aE} (hl : l.stackTraces = false) (x1 : Nat) (x2 : Int32) (x3 : Int32) (h0 : aH) : MO (fun (v : Int32) => .inl (some (.int v))) l E yX12_trust_ (.code yX12_trust_ cX12_trust_ 3 (some .int)) 3 68 [.ref (e_z E + x1), .int x2, .int x3] h0 (m_X12_trust_ x1 x2 x3 h0) := g_met hl (by decide +kernel) (Nat.le_of_ble_eq_true rfl) (b_X12_trust_ hl _ _ x1 x2 x3 h0)
theorem dX12_trustPath_0 : decode cX12_trustPath 0 = .ok (.aload_n 0, 1) := by decide +kernel
theorem dX12_trustPath_1 : decode cX12_trustPath 1 = .ok (.iload_n 1, 1) := by decide +kernel
theorem dX12_trustPath_2 : decode cX12_trustPath 2 = .ok (.iload_n 2, 1) := by decide +kernel
theorem dX12_trustPath_3 : decode cX12_trustPath 3 = .ok (.invokevirtual 378, 3) := by decide +kernel
theorem dX12_trustPath_6 : decode cX12_trustPath 6 = .ok (.ifCond .ne 5, 3) := by decide +kernel
theorem dX12_trustPath_9 : decode cX12_trustPath 9 = .ok (.iconst 0, 1) := by decide +kernel
theorem dX12_trustPath_10 : decode cX12_trustPath 10 = .ok (.ireturn, 1) := by decide +kernel
theorem dX12_trustPath_11 : decode cX12_trustPath 11 = .ok (.bipush 9, 2) := by decide +kernel
theorem dX12_trustPath_13 : decode cX12_trustPath 13 = .ok (.istore_n 3, 1) := by decide +kernel
theorem dX12_trustPath_14 : decode cX12_trustPath 14 = .ok (.iload_n 3, 1) := by decide +kernel
theorem dX12_trustPath_15 : decode cX12_trustPath 15 = .ok (.ifCond .le 140, 3) := by decide +kernel
theorem dX12_trustPath_18 : decode cX12_trustPath 18 = .ok (.iconst 1, 1) := by decide +kernel
theorem dX12_trustPath_19 : decode cX12_trustPath 19 = .ok (.iload_n 1, 1) := by decide +kernel
theorem dX12_trustPath_20 : decode cX12_trustPath 20 = .ok (.ishl, 1) := by decide +kernel
theorem dX12_trustPath_21 : decode cX12_trustPath 21 = .ok (.istore 4, 2) := by decide +kernel
theorem dX12_trustPath_23 : decode cX12_trustPath 23 = .ok (.iconst 0, 1) := by decide +kernel
theorem dX12_trustPath_24 : decode cX12_trustPath 24 = .ok (.istore 5, 2) := by decide +kernel
theorem dX12_trustPath_26 : decode cX12_trustPath 26 = .ok (.iload 5, 2) := by decide +kernel
theorem dX12_trustPath_28 : decode cX12_trustPath 28 = .ok (.iload 4, 2) := by decide +kernel
theorem dX12_trustPath_30 : decode cX12_trustPath 30 = .ok (.if_icmp .eq 108, 3) := by decide +kernel
theorem dX12_trustPath_33 : decode cX12_trustPath 33 = .ok (.iload 4, 2) := by decide +kernel
theorem dX12_trustPath_35 : decode cX12_trustPath 35 = .ok (.istore 5, 2) := by decide +kernel
theorem dX12_trustPath_37 : decode cX12_trustPath 37 = .ok (.iconst 0, 1) := by decide +kernel
theorem dX12_trustPath_38 : decode cX12_trustPath 38 = .ok (.istore 6, 2) := by decide +kernel
theorem dX12_trustPath_40 : decode cX12_trustPath 40 = .ok (.iload 6, 2) := by decide +kernel
theorem dX12_trustPath_42 : decode cX12_trustPath 42 = .ok (.aload_n 0, 1) := by decide +kernel
theorem dX12_trustPath_43 : decode cX12_trustPath 43 = .ok (.getfield 325, 3) := by decide +kernel
theorem dX12_trustPath_46 : decode cX12_trustPath 46 = .ok (.if_icmp .ge 89, 3) := by decide +kernel
theorem dX12_trustPath_49 : decode cX12_trustPath 49 = .ok (.iconst 0, 1) := by decide +kernel
theorem dX12_trustPath_50 : decode cX12_trustPath 50 = .ok (.istore 7, 2) := by decide +kernel
theorem dX12_trustPath_52 : decode cX12_trustPath 52 = .ok (.iload 7, 2) := by decide +kernel
theorem dX12_trustPath_54 : decode cX12_trustPath 54 = .ok (.aload_n 0, 1) := by decide +kernel
theorem dX12_trustPath_55 : decode cX12_trustPath 55 = .ok (.getfield 325, 3) := by decide +kernel
theorem dX12_trustPath_58 : decode cX12_trustPath 58 = .ok (.if_icmp .ge 71, 3) := by decide +kernel
theorem dX12_trustPath_61 : decode cX12_trustPath 61 = .ok (.iload 5, 2) := by decide +kernel
theorem dX12_trustPath_63 : decode cX12_trustPath 63 = .ok (.iload 6, 2) := by decide +kernel
theorem dX12_trustPath_65 : decode cX12_trustPath 65 = .ok (.ishr, 1) := by decide +kernel
theorem dX12_trustPath_66 : decode cX12_trustPath 66 = .ok (.iconst 1, 1) := by decide +kernel
theorem dX12_trustPath_67 : decode cX12_trustPath 67 = .ok (.iand, 1) := by decide +kernel
theorem dX12_trustPath_68 : decode cX12_trustPath 68 = .ok (.ifCond .eq 34, 3) := by decide +kernel
theorem dX12_trustPath_71 : decode cX12_trustPath 71 = .ok (.iload 6, 2) := by decide +kernel
theorem dX12_trustPath_73 : decode cX12_trustPath 73 = .ok (.iload 7, 2) := by decide +kernel
theorem dX12_trustPath_75 : decode cX12_trustPath 75 = .ok (.if_icmp .eq 27, 3) := by decide +kernel
theorem dX12_trustPath_78 : decode cX12_trustPath 78 = .ok (.aload_n 0, 1) := by decide +kernel
theorem dX12_trustPath_79 : decode cX12_trustPath 79 = .ok (.getfield 7, 3) := by decide +kernel
theorem dX12_trustPath_82 : decode cX12_trustPath 82 = .ok (.bipush 50, 2) := by decide +kernel
theorem dX12_trustPath_84 : decode cX12_trustPath 84 = .ok (.bipush 12, 2) := by decide +kernel
theorem dX12_trustPath_86 : decode cX12_trustPath 86 = .ok (.iload 6, 2) := by decide +kernel
theorem dX12_trustPath_88 : decode cX12_trustPath 88 = .ok (.imul, 1) := by decide +kernel
theorem dX12_trustPath_89 : decode cX12_trustPath 89 = .ok (.iadd, 1) := by decide +kernel
theorem dX12_trustPath_90 : decode cX12_trustPath 90 = .ok (.iload 7, 2) := by decide +kernel
theorem dX12_trustPath_92 : decode cX12_trustPath 92 = .ok (.iadd, 1) := by decide +kernel
theorem dX12_trustPath_93 : decode cX12_trustPath 93 = .ok (.iaload, 1) := by decide +kernel
theorem dX12_trustPath_94 : decode cX12_trustPath 94 = .ok (.iload_n 3, 1) := by decide +kernel
theorem dX12_trustPath_95 : decode cX12_trustPath 95 = .ok (.if_icmp .lt 7, 3) := by decide +kernel
theorem dX12_trustPath_98 : decode cX12_trustPath 98 = .ok (.iconst 1, 1) := by decide +kernel
theorem dX12_trustPath_99 : decode cX12_trustPath 99 = .ok (.goto 4, 3) := by decide +kernel
theorem dX12_trustPath_102 : decode cX12_trustPath 102 = .ok (.iconst 0, 1) := by decide +kernel
theorem dX12_trustPath_103 : decode cX12_trustPath 103 = .ok (.istore 8, 2) := by decide +kernel
theorem dX12_trustPath_105 : decode cX12_trustPath 105 = .ok (.iload 4, 2) := by decide +kernel
theorem dX12_trustPath_107 : decode cX12_trustPath 107 = .ok (.iload 8, 2) := by decide +kernel
theorem dX12_trustPath_109 : decode cX12_trustPath 109 = .ok (.ifCond .eq 10, 3) := by decide +kernel
theorem dX12_trustPath_112 : decode cX12_trustPath 112 = .ok (.iconst 1, 1) := by decide +kernel
theorem dX12_trustPath_113 : decode cX12_trustPath 113 = .ok (.iload 7, 2) := by decide +kernel
theorem dX12_trustPath_115 : decode cX12_trustPath 115 = .ok (.ishl, 1) := by decide +kernel
theorem dX12_trustPath_116 : decode cX12_trustPath 116 = .ok (.goto 4, 3) := by decide +kernel
theorem dX12_trustPath_119 : decode cX12_trustPath 119 = .ok (.iconst 0, 1) := by decide +kernel
theorem dX12_trustPath_120 : decode cX12_trustPath 120 = .ok (.ior, 1) := by decide +kernel
theorem dX12_trustPath_121 : decode cX12_trustPath 121 = .ok (.istore 4, 2) := by decide +kernel
theorem dX12_trustPath_123 : decode cX12_trustPath 123 = .ok (.iinc 7 1, 3) := by decide +kernel
theorem dX12_trustPath_126 : decode cX12_trustPath 126 = .ok (.goto (-74), 3) := by decide +kernel
theorem dX12_trustPath_129 : decode cX12_trustPath 129 = .ok (.iinc 6 1, 3) := by decide +kernel
theorem dX12_trustPath_132 : decode cX12_trustPath 132 = .ok (.goto (-92), 3) := by decide +kernel
theorem dX12_trustPath_135 : decode cX12_trustPath 135 = .ok (.goto (-109), 3) := by decide +kernel
theorem dX12_trustPath_138 : decode cX12_trustPath 138 = .ok (.iload 4, 2) := by decide +kernel
theorem dX12_trustPath_140 : decode cX12_trustPath 140 = .ok (.iload_n 2, 1) := by decide +kernel
theorem dX12_trustPath_141 : decode cX12_trustPath 141 = .ok (.ishr, 1) := by decide +kernel
theorem dX12_trustPath_142 : decode cX12_trustPath 142 = .ok (.iconst 1, 1) := by decide +kernel
theorem dX12_trustPath_143 : decode cX12_trustPath 143 = .ok (.iand, 1) := by decide +kernel
theorem dX12_trustPath_144 : decode cX12_trustPath 144 = .ok (.ifCond .eq 5, 3) := by decide +kernel
theorem dX12_trustPath_147 : decode cX12_trustPath 147 = .ok (.iload_n 3, 1) := by decide +kernel
theorem dX12_trustPath_148 : decode cX12_trustPath 148 = .ok (.ireturn, 1) := by decide +kernel
theorem dX12_trustPath_149 : decode cX12_trustPath 149 = .ok (.iinc 3 (-1), 3) := by decide +kernel
theorem dX12_trustPath_152 : decode cX12_trustPath 152 = .ok (.goto (-138), 3) := by decide +kernel
theorem dX12_trustPath_155 : decode cX12_trustPath 155 = .ok (.iconst 0, 1) := by decide +kernel
theorem dX12_trustPath_156 : decode cX12_trustPath 156 = .ok (.ireturn, 1) := by decide +kernel
abbrev M_X12_trustPath : aM := (yX12_trustPath.cls, cX12_trustPath, 9, (some .int), [], yX12_trustPath.name == "<init>")
abbrev J_X12_trustPath (l : Launch) (E : aE) (n0 m0 : Nat) := GG (fun (v : Int32) => .inl (some (.int v))) l E M_X12_trustPath 3 68 n0 m0
theorem b_X12_trustPath {l : Launch} {E : aE} (hl : l.stackTraces = false) (n0 m0 : Nat) (x1 : Nat) (x2 : Int32) (x3 : Int32) (h0 : aH) : J_X12_trustPath l E n0 m0 0 [(0, .ref (e_z E + x1)), (1, .int x2), (2, .int x3)] [] h0 (m_X12_trustPath x1 x2 x3 h0) := by
  unfold m_X12_trustPath
  refine g_aload_n (pc := 0) dX12_trustPath_0 0 rfl ?_
  refine g_iload_n (pc := 1) dX12_trustPath_1 1 rfl ?_
  refine g_iload_n (pc := 2) dX12_trustPath_2 2 rfl ?_
  refine g_gS (fun hs => ?_)
  refine g_bRi (pc := 3) (c_V cl12 hs (p_X12_isCouple hl x1 x2 x3 h0) y_X12_isCouple tw1984 dX12_trustPath_3 rfl (st := []) rfl (Nat.le_of_ble_eq_true rfl) (Nat.le_of_ble_eq_true rfl) (Nat.le_of_ble_eq_true rfl)) (fun x4 h1 => ?_)
  refine g_ifne (pc := 6) (tgt := 11) dX12_trustPath_6 rfl ?_ ?_
  · refine g_iconst (pc := 9) dX12_trustPath_9 ci_0 ?_
    exact g_ret (pc := 10) rfl (isRet_i _) dX12_trustPath_10 rfl
  · refine g_bipush (pc := 11) dX12_trustPath_11 cb_9 ?_
    refine g_istore_n (pc := 13) (lv' := [(3, .int (9 : Int32)), (0, .ref (e_z E + x1)), (1, .int x2), (2, .int x3)]) dX12_trustPath_13 (Nat.le_of_ble_eq_true rfl) rfl ?_
    refine g_join (fun k => ∀ (h2 : aH), J_X12_trustPath l E n0 m0 155 [] [] h2 (k h2)) (fun h2 => ?_) (fun k155 hk155 => ?_)
    · refine g_iconst (pc := 155) dX12_trustPath_155 ci_0 ?_
      exact g_ret (pc := 156) rfl (isRet_i _) dX12_trustPath_156 rfl
    refine g_join (fun k => ∀ (x5 : Int32) (h3 : aH), J_X12_trustPath l E n0 m0 147 [(3, .int x5)] [] h3 (k x5 h3)) (fun x5 h3 => ?_) (fun k147 hk147 => ?_)
    · refine g_iload_n (pc := 147) dX12_trustPath_147 0 rfl ?_
      exact g_ret (pc := 148) rfl (isRet_i _) dX12_trustPath_148 rfl
    refine g_lv [1, 2, 3, 0] rfl ?_
    refine g_loop1 (F := (m_X12_trustPath_L14 x1 x2 x3 k155 k147)) (fun x6 => [(0, .ref (e_z E + x1)), (1, .int x2), (2, .int x3), (3, .int x6)]) (fun r14 hr14 x6 h4 => ?_) _ _ _
    unfold m_X12_trustPath_L14
    refine g_iload_n (pc := 14) dX12_trustPath_14 3 rfl ?_
    refine g_ifle (pc := 15) (tgt := 155) dX12_trustPath_15 rfl ?_ ?_
    · refine g_lv [] rfl ?_
      exact hk155 h4
    · refine g_iconst (pc := 18) dX12_trustPath_18 ci_1 ?_
      refine g_iload_n (pc := 19) dX12_trustPath_19 1 rfl ?_
      refine g_ishl (pc := 20) dX12_trustPath_20 ?_
      refine g_topi (fun x7 => ?_)
      refine g_istore (pc := 21) (lv' := [(4, .int x7), (0, .ref (e_z E + x1)), (1, .int x2), (2, .int x3), (3, .int x6)]) dX12_trustPath_21 (Nat.le_of_ble_eq_true rfl) rfl ?_
      refine g_iconst (pc := 23) dX12_trustPath_23 ci_0 ?_
      refine g_istore (pc := 24) (lv' := [(5, .int (0 : Int32)), (4, .int x7), (0, .ref (e_z E + x1)), (1, .int x2), (2, .int x3), (3, .int x6)]) dX12_trustPath_24 (Nat.le_of_ble_eq_true rfl) rfl ?_
      refine g_join (fun k => ∀ (x8 : Int32) (h5 : aH), J_X12_trustPath l E n0 m0 138 [(0, .ref (e_z E + x1)), (1, .int x2), (2, .int x3), (3, .int x6), (4, .int x8)] [] h5 (k x8 h5)) (fun x8 h5 => ?_) (fun k138 hk138 => ?_)
      · refine g_iload (pc := 138) dX12_trustPath_138 4 rfl ?_
        refine g_iload_n (pc := 140) dX12_trustPath_140 2 rfl ?_
        refine g_ishr (pc := 141) dX12_trustPath_141 ?_
        refine g_iconst (pc := 142) dX12_trustPath_142 ci_1 ?_
        refine g_iand (pc := 143) dX12_trustPath_143 ?_
        refine g_ifeq (pc := 144) (tgt := 149) dX12_trustPath_144 rfl ?_ ?_
        · refine g_iincN (pc := 149) dX12_trustPath_149 3 rfl ci_m1 (Nat.le_of_ble_eq_true rfl) (fun x9 => ?_)
          refine g_lvr (lv' := [(3, .int x9), (0, .ref (e_z E + x1)), (1, .int x2), (2, .int x3), (4, .int x8)]) rfl ?_
          refine g_goto (pc := 152) (tgt := 14) dX12_trustPath_152 rfl ?_
          refine g_lv [1, 2, 3, 0] rfl ?_
          exact hr14 x9 h5
        · refine g_lv [3] rfl ?_
          exact hk147 x6 h5
      refine g_lv [2, 3, 4, 5, 1, 0] rfl ?_
      refine g_loop2 (F := (m_X12_trustPath_L26 x1 x6 k138)) (fun x10 x11 => [(0, .ref (e_z E + x1)), (1, .int x2), (2, .int x3), (3, .int x6), (4, .int x10), (5, .int x11)]) (fun r26 hr26 x10 x11 h6 => ?_) _ _ _ _
      unfold m_X12_trustPath_L26
      refine g_iload (pc := 26) dX12_trustPath_26 5 rfl ?_
      refine g_iload (pc := 28) dX12_trustPath_28 4 rfl ?_
      refine g_icmpeq (pc := 30) (tgt := 138) dX12_trustPath_30 rfl ?_ ?_
      · refine g_lv [0, 1, 2, 3, 4] rfl ?_
        exact hk138 x10 h6
      · refine g_iload (pc := 33) dX12_trustPath_33 4 rfl ?_
        refine g_istore (pc := 35) (lv' := [(5, .int x10), (0, .ref (e_z E + x1)), (1, .int x2), (2, .int x3), (3, .int x6), (4, .int x10)]) dX12_trustPath_35 (Nat.le_of_ble_eq_true rfl) rfl ?_
        refine g_iconst (pc := 37) dX12_trustPath_37 ci_0 ?_
        refine g_istore (pc := 38) (lv' := [(6, .int (0 : Int32)), (5, .int x10), (0, .ref (e_z E + x1)), (1, .int x2), (2, .int x3), (3, .int x6), (4, .int x10)]) dX12_trustPath_38 (Nat.le_of_ble_eq_true rfl) rfl ?_
        refine g_join (fun k => ∀ (x12 : Int32) (h7 : aH), J_X12_trustPath l E n0 m0 135 [(0, .ref (e_z E + x1)), (1, .int x2), (2, .int x3), (3, .int x6), (4, .int x12), (5, .int x10)] [] h7 (k x12 h7)) (fun x12 h7 => ?_) (fun k135 hk135 => ?_)
        · refine g_goto (pc := 135) (tgt := 26) dX12_trustPath_135 rfl ?_
          exact hr26 x12 x10 h7
        refine g_lv [2, 3, 4, 5, 6, 1, 0] rfl ?_
        refine g_loop2 (F := (m_X12_trustPath_L40 x1 x6 x10 k135)) (fun x13 x14 => [(0, .ref (e_z E + x1)), (1, .int x2), (2, .int x3), (3, .int x6), (4, .int x13), (5, .int x10), (6, .int x14)]) (fun r40 hr40 x13 x14 h8 => ?_) _ _ _ _
        unfold m_X12_trustPath_L40
        refine g_iload (pc := 40) dX12_trustPath_40 6 rfl ?_
        refine g_aload_n (pc := 42) dX12_trustPath_42 0 rfl ?_
        refine g_geti (pc := 43) cl12 (Nat.le_of_ble_eq_true rfl) fk1559 (fun _ _ _ => rfl) dX12_trustPath_43 (fun x15 => ?_)
        refine g_icmpge (pc := 46) (tgt := 135) dX12_trustPath_46 rfl ?_ ?_
        · refine g_iconst (pc := 49) dX12_trustPath_49 ci_0 ?_
          refine g_istore (pc := 50) (lv' := [(7, .int (0 : Int32)), (0, .ref (e_z E + x1)), (1, .int x2), (2, .int x3), (3, .int x6), (4, .int x13), (5, .int x10), (6, .int x14)]) dX12_trustPath_50 (Nat.le_of_ble_eq_true rfl) rfl ?_
          refine g_join (fun k => ∀ (x16 : Int32) (h9 : aH), J_X12_trustPath l E n0 m0 129 [(0, .ref (e_z E + x1)), (1, .int x2), (2, .int x3), (3, .int x6), (4, .int x16), (5, .int x10), (6, .int x14)] [] h9 (k x16 h9)) (fun x16 h9 => ?_) (fun k129 hk129 => ?_)
          · refine g_iincN (pc := 129) dX12_trustPath_129 6 rfl ci_1 (Nat.le_of_ble_eq_true rfl) (fun x17 => ?_)
            refine g_lvr (lv' := [(6, .int x17), (0, .ref (e_z E + x1)), (1, .int x2), (2, .int x3), (3, .int x6), (4, .int x16), (5, .int x10)]) rfl ?_
            refine g_goto (pc := 132) (tgt := 40) dX12_trustPath_132 rfl ?_
            refine g_lv [1, 2, 3, 4, 5, 6, 0] rfl ?_
            exact hr40 x16 x17 h9
          refine g_lv [1, 2, 3, 4, 5, 6, 7, 0] rfl ?_
          refine g_loop2 (F := (m_X12_trustPath_L52 x1 x6 x10 x14 k129)) (fun x18 x19 => [(0, .ref (e_z E + x1)), (1, .int x2), (2, .int x3), (3, .int x6), (4, .int x18), (5, .int x10), (6, .int x14), (7, .int x19)]) (fun r52 hr52 x18 x19 h10 => ?_) _ _ _ _
          unfold m_X12_trustPath_L52
          refine g_iload (pc := 52) dX12_trustPath_52 7 rfl ?_
          refine g_aload_n (pc := 54) dX12_trustPath_54 0 rfl ?_
          refine g_geti (pc := 55) cl12 (Nat.le_of_ble_eq_true rfl) fk1559 (fun _ _ _ => rfl) dX12_trustPath_55 (fun x20 => ?_)
          refine g_icmpge (pc := 58) (tgt := 129) dX12_trustPath_58 rfl ?_ ?_
          · refine g_iload (pc := 61) dX12_trustPath_61 5 rfl ?_
            refine g_iload (pc := 63) dX12_trustPath_63 6 rfl ?_
            refine g_ishr (pc := 65) dX12_trustPath_65 ?_
            refine g_iconst (pc := 66) dX12_trustPath_66 ci_1 ?_
            refine g_iand (pc := 67) dX12_trustPath_67 ?_
            refine g_join (fun k => ∀ (x21 : Int32) (h11 : aH), J_X12_trustPath l E n0 m0 103 [(0, .ref (e_z E + x1)), (1, .int x2), (2, .int x3), (3, .int x6), (4, .int x18), (5, .int x10), (6, .int x14), (7, .int x19)] [.int x21] h11 (k x21 h11)) (fun x21 h11 => ?_) (fun k103 hk103 => ?_)
            · refine g_istore (pc := 103) (lv' := [(8, .int x21), (0, .ref (e_z E + x1)), (1, .int x2), (2, .int x3), (3, .int x6), (4, .int x18), (5, .int x10), (6, .int x14), (7, .int x19)]) dX12_trustPath_103 (Nat.le_of_ble_eq_true rfl) rfl ?_
              refine g_iload (pc := 105) dX12_trustPath_105 5 rfl ?_
              refine g_iload (pc := 107) dX12_trustPath_107 0 rfl ?_
              refine g_join (fun k => ∀ (x22 : Int32) (h12 : aH), J_X12_trustPath l E n0 m0 120 [(0, .ref (e_z E + x1)), (1, .int x2), (2, .int x3), (3, .int x6), (5, .int x10), (6, .int x14), (7, .int x19)] [.int x22, .int x18] h12 (k x22 h12)) (fun x22 h12 => ?_) (fun k120 hk120 => ?_)
              · refine g_ior (pc := 120) dX12_trustPath_120 ?_
                refine g_topi (fun x23 => ?_)
                refine g_istore (pc := 121) (lv' := [(4, .int x23), (0, .ref (e_z E + x1)), (1, .int x2), (2, .int x3), (3, .int x6), (5, .int x10), (6, .int x14), (7, .int x19)]) dX12_trustPath_121 (Nat.le_of_ble_eq_true rfl) rfl ?_
                refine g_iincN (pc := 123) dX12_trustPath_123 7 rfl ci_1 (Nat.le_of_ble_eq_true rfl) (fun x24 => ?_)
                refine g_lvr (lv' := [(7, .int x24), (4, .int x23), (0, .ref (e_z E + x1)), (1, .int x2), (2, .int x3), (3, .int x6), (5, .int x10), (6, .int x14)]) rfl ?_
                refine g_goto (pc := 126) (tgt := 52) dX12_trustPath_126 rfl ?_
                refine g_lv [2, 3, 4, 5, 1, 6, 7, 0] rfl ?_
                exact hr52 x23 x24 h12
              refine g_ifeq (pc := 109) (tgt := 119) dX12_trustPath_109 rfl ?_ ?_
              · refine g_iconst (pc := 119) dX12_trustPath_119 ci_0 ?_
                refine g_lv [1, 2, 3, 4, 6, 7, 8] rfl ?_
                exact hk120 (0 : Int32) h11
              · refine g_iconst (pc := 112) dX12_trustPath_112 ci_1 ?_
                refine g_iload (pc := 113) dX12_trustPath_113 8 rfl ?_
                refine g_ishl (pc := 115) dX12_trustPath_115 ?_
                refine g_goto (pc := 116) (tgt := 120) dX12_trustPath_116 rfl ?_
                refine g_lv [1, 2, 3, 4, 6, 7, 8] rfl ?_
                exact hk120 ((1 : Int32) <<< (x19 &&& 31)) h11
            refine g_join (fun k => ∀ (h13 : aH), J_X12_trustPath l E n0 m0 102 [(0, .ref (e_z E + x1)), (1, .int x2), (2, .int x3), (3, .int x6), (4, .int x18), (5, .int x10), (6, .int x14), (7, .int x19)] [] h13 (k h13)) (fun h13 => ?_) (fun k102 hk102 => ?_)
            · refine g_iconst (pc := 102) dX12_trustPath_102 ci_0 ?_
              exact hk103 (0 : Int32) h13
            refine g_ifeq (pc := 68) (tgt := 102) dX12_trustPath_68 rfl ?_ ?_
            · exact hk102 h10
            · refine g_iload (pc := 71) dX12_trustPath_71 6 rfl ?_
              refine g_iload (pc := 73) dX12_trustPath_73 7 rfl ?_
              refine g_icmpeq (pc := 75) (tgt := 102) dX12_trustPath_75 rfl ?_ ?_
              · exact hk102 h10
              · refine g_aload_n (pc := 78) dX12_trustPath_78 0 rfl ?_
                refine g_getr (pc := 79) cl12 (Nat.le_of_ble_eq_true rfl) fk1552 (fun _ _ _ => rfl) dX12_trustPath_79 (fun x25 => ?_)
                refine g_bipush (pc := 82) dX12_trustPath_82 cb_50 ?_
                refine g_bipush (pc := 84) dX12_trustPath_84 cb_12 ?_
                refine g_iload (pc := 86) dX12_trustPath_86 6 rfl ?_
                refine g_imul (pc := 88) dX12_trustPath_88 ?_
                refine g_iadd (pc := 89) dX12_trustPath_89 ?_
                refine g_iload (pc := 90) dX12_trustPath_90 7 rfl ?_
                refine g_iadd (pc := 92) dX12_trustPath_92 ?_
                refine g_iald (pc := 93) dX12_trustPath_93 (fun x26 => ?_)
                refine g_iload_n (pc := 94) dX12_trustPath_94 3 rfl ?_
                refine g_icmplt (pc := 95) (tgt := 102) dX12_trustPath_95 rfl ?_ ?_
                · exact hk102 h10
                · refine g_iconst (pc := 98) dX12_trustPath_98 ci_1 ?_
                  refine g_goto (pc := 99) (tgt := 103) dX12_trustPath_99 rfl ?_
                  exact hk103 (1 : Int32) h10
          · refine g_lv [0, 1, 2, 3, 4, 5, 6] rfl ?_
            exact hk129 x18 h10
        · refine g_lv [0, 1, 2, 3, 4, 5] rfl ?_
          exact hk135 x13 h8
theorem p_X12_trustPath {l : Launch} {E : aE} (hl : l.stackTraces = false) (x1 : Nat) (x2 : Int32) (x3 : Int32) (h0 : aH) : MO (fun (v : Int32) => .inl (some (.int v))) l E yX12_trustPath (.code yX12_trustPath cX12_trustPath 9 (some .int)) 3 68 [.ref (e_z E + x1), .int x2, .int x3] h0 (m_X12_trustPath x1 x2 x3 h0) := g_met hl (by decide +kernel) (Nat.le_of_ble_eq_true rfl) (b_X12_trustPath hl _ _ x1 x2 x3 h0)
theorem dX12_isPager_0 : decode cX12_isPager 0 = .ok (.iload_n 1, 1) := by decide +kernel
theorem dX12_isPager_1 : decode cX12_isPager 1 = .ok (.i2l, 1) := by decide +kernel
theorem dX12_isPager_2 : decode cX12_isPager 2 = .ok (.lconst 0, 1) := by decide +kernel
theorem dX12_isPager_3 : decode cX12_isPager 3 = .ok (.aload_n 0, 1) := by decide +kernel
theorem dX12_isPager_4 : decode cX12_isPager 4 = .ok (.getfield 328, 3) := by decide +kernel
theorem dX12_isPager_7 : decode cX12_isPager 7 = .ok (.iconst 1, 1) := by decide +kernel
theorem dX12_isPager_8 : decode cX12_isPager 8 = .ok (.isub, 1) := by decide +kernel
theorem dX12_isPager_9 : decode cX12_isPager 9 = .ok (.i2l, 1) := by decide +kernel
theorem dX12_isPager_10 : decode cX12_isPager 10 = .ok (.invokestatic 176, 3) := by decide +kernel
theorem dX12_isPager_13 : decode cX12_isPager 13 = .ok (.ireturn, 1) := by decide +kernel
abbrev M_X12_isPager : aM := (yX12_isPager.cls, cX12_isPager, 2, (some .boolean), [], yX12_isPager.name == "<init>")
abbrev J_X12_isPager (l : Launch) (E : aE) (n0 m0 : Nat) := GG (fun (v : Int32) => .inl (some (.int v))) l E M_X12_isPager 1 25 n0 m0
theorem b_X12_isPager {l : Launch} {E : aE} (hl : l.stackTraces = false) (n0 m0 : Nat) (x1 : Nat) (x2 : Int32) (h0 : aH) : J_X12_isPager l E n0 m0 0 [(0, .ref (e_z E + x1)), (1, .int x2)] [] h0 (m_X12_isPager x1 x2 h0) := by
  unfold m_X12_isPager
  refine g_iload_n (pc := 0) dX12_isPager_0 1 rfl ?_
  refine g_i2l (pc := 1) dX12_isPager_1 ?_
  refine g_lconst (pc := 2) dX12_isPager_2 cl_0 ?_
  refine g_aload_n (pc := 3) dX12_isPager_3 0 rfl ?_
  refine g_geti (pc := 4) cl12 (Nat.le_of_ble_eq_true rfl) fk1560 (fun _ _ _ => rfl) dX12_isPager_4 (fun x3 => ?_)
  refine g_iconst (pc := 7) dX12_isPager_7 ci_1 ?_
  refine g_isub (pc := 8) dX12_isPager_8 ?_
  refine g_i2l (pc := 9) dX12_isPager_9 ?_
  refine g_bRi (pc := 10) (c_S (p_X12_in hl (x2.toInt64) (0 : Int64) ((x3 - (1 : Int32)).toInt64) h0) y_X12_in tw1782 dX12_isPager_10 rfl (st := []) rfl (Nat.le_of_ble_eq_true rfl) (Nat.le_of_ble_eq_true rfl) (Nat.le_of_ble_eq_true rfl)) (fun x4 h1 => ?_)
  refine g_zO (fun hz => ?_)
  exact g_ret (pc := 13) rfl (isRet_z hz) dX12_isPager_13 rfl
theorem p_X12_isPager {l : Launch} {E : aE} (hl : l.stackTraces = false) (x1 : Nat) (x2 : Int32) (h0 : aH) : MO (fun (v : Int32) => .inl (some (.int v))) l E yX12_isPager (.code yX12_isPager cX12_isPager 2 (some .boolean)) 1 25 [.ref (e_z E + x1), .int x2] h0 (m_X12_isPager x1 x2 h0) := g_met hl (by decide +kernel) (Nat.le_of_ble_eq_true rfl) (b_X12_isPager hl _ _ x1 x2 h0)
theorem dX12_turnAt_0 : decode cX12_turnAt 0 = .ok (.iload_n 2, 1) := by decide +kernel
theorem dX12_turnAt_1 : decode cX12_turnAt 1 = .ok (.aload_n 0, 1) := by decide +kernel
theorem dX12_turnAt_2 : decode cX12_turnAt 2 = .ok (.getfield 42, 3) := by decide +kernel
theorem dX12_turnAt_5 : decode cX12_turnAt 5 = .ok (.iload_n 1, 1) := by decide +kernel
theorem dX12_turnAt_6 : decode cX12_turnAt 6 = .ok (.iaload, 1) := by decide +kernel
theorem dX12_turnAt_7 : decode cX12_turnAt 7 = .ok (.idiv, 1) := by decide +kernel
theorem dX12_turnAt_8 : decode cX12_turnAt 8 = .ok (.ireturn, 1) := by decide +kernel
abbrev M_X12_turnAt : aM := (yX12_turnAt.cls, cX12_turnAt, 3, (some .int), [], yX12_turnAt.name == "<init>")
abbrev J_X12_turnAt (l : Launch) (E : aE) (n0 m0 : Nat) := GG (fun (v : Int32) => .inl (some (.int v))) l E M_X12_turnAt 0 0 n0 m0
theorem b_X12_turnAt {l : Launch} {E : aE} (hl : l.stackTraces = false) (n0 m0 : Nat) (x1 : Nat) (x2 : Int32) (x3 : Int32) (h0 : aH) : J_X12_turnAt l E n0 m0 0 [(0, .ref (e_z E + x1)), (1, .int x2), (2, .int x3)] [] h0 (m_X12_turnAt x1 x2 x3 h0) := by
  unfold m_X12_turnAt
  refine g_iload_n (pc := 0) dX12_turnAt_0 2 rfl ?_
  refine g_aload_n (pc := 1) dX12_turnAt_1 0 rfl ?_
  refine g_getr (pc := 2) cl12 (Nat.le_of_ble_eq_true rfl) fk1567 (fun _ _ _ => rfl) dX12_turnAt_2 (fun x4 => ?_)
  refine g_iload_n (pc := 5) dX12_turnAt_5 1 rfl ?_
  refine g_iald (pc := 6) dX12_turnAt_6 (fun x5 => ?_)
  refine g_idiv (pc := 7) dX12_turnAt_7 (fun x6 => ?_)
  exact g_ret (pc := 8) rfl (isRet_i _) dX12_turnAt_8 rfl
theorem p_X12_turnAt {l : Launch} {E : aE} (hl : l.stackTraces = false) (x1 : Nat) (x2 : Int32) (x3 : Int32) (h0 : aH) : MO (fun (v : Int32) => .inl (some (.int v))) l E yX12_turnAt (.code yX12_turnAt cX12_turnAt 3 (some .int)) 0 0 [.ref (e_z E + x1), .int x2, .int x3] h0 (m_X12_turnAt x1 x2 x3 h0) := g_met hl (by decide +kernel) (Nat.le_of_ble_eq_true rfl) (b_X12_turnAt hl _ _ x1 x2 x3 h0)
