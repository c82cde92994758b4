/-! proofs of methods -/
theorem dX12_mostEngines_0 : decode cX12_mostEngines 0 = .ok (.aload_n 0, 1) := by decide +kernel
theorem dX12_mostEngines_1 : decode cX12_mostEngines 1 = .ok (.aload_n 0, 1) := by decide +kernel
theorem dX12_mostEngines_2 : decode cX12_mostEngines 2 = .ok (.iload_n 1, 1) := by decide +kernel
theorem dX12_mostEngines_3 : decode cX12_mostEngines 3 = .ok (.invokevirtual 443, 3) := by decide +kernel
theorem dX12_mostEngines_6 : decode cX12_mostEngines 6 = .ok (.ifCond .eq 7, 3) := by decide +kernel
theorem dX12_mostEngines_9 : decode cX12_mostEngines 9 = .ok (.iconst 0, 1) := by decide +kernel
theorem dX12_mostEngines_10 : decode cX12_mostEngines 10 = .ok (.goto 4, 3) := by decide +kernel
theorem dX12_mostEngines_13 : decode cX12_mostEngines 13 = .ok (.iconst 1, 1) := by decide +kernel
theorem dX12_mostEngines_14 : decode cX12_mostEngines 14 = .ok (.putfield 166, 3) := by decide +kernel
theorem dX12_mostEngines_17 : decode cX12_mostEngines 17 = .ok (.aload_n 0, 1) := by decide +kernel
theorem dX12_mostEngines_18 : decode cX12_mostEngines 18 = .ok (.getfield 166, 3) := by decide +kernel
theorem dX12_mostEngines_21 : decode cX12_mostEngines 21 = .ok (.ifCond .le 5, 3) := by decide +kernel
theorem dX12_mostEngines_24 : decode cX12_mostEngines 24 = .ok (.iconst 0, 1) := by decide +kernel
theorem dX12_mostEngines_25 : decode cX12_mostEngines 25 = .ok (.ireturn, 1) := by decide +kernel
theorem dX12_mostEngines_26 : decode cX12_mostEngines 26 = .ok (.aload_n 0, 1) := by decide +kernel
theorem dX12_mostEngines_27 : decode cX12_mostEngines 27 = .ok (.iload_n 1, 1) := by decide +kernel
theorem dX12_mostEngines_28 : decode cX12_mostEngines 28 = .ok (.invokevirtual 446, 3) := by decide +kernel
theorem dX12_mostEngines_31 : decode cX12_mostEngines 31 = .ok (.iconst 0, 1) := by decide +kernel
theorem dX12_mostEngines_32 : decode cX12_mostEngines 32 = .ok (.istore_n 2, 1) := by decide +kernel
theorem dX12_mostEngines_33 : decode cX12_mostEngines 33 = .ok (.iconst 1, 1) := by decide +kernel
theorem dX12_mostEngines_34 : decode cX12_mostEngines 34 = .ok (.istore_n 3, 1) := by decide +kernel
theorem dX12_mostEngines_35 : decode cX12_mostEngines 35 = .ok (.iload_n 3, 1) := by decide +kernel
theorem dX12_mostEngines_36 : decode cX12_mostEngines 36 = .ok (.iconst 1, 1) := by decide +kernel
theorem dX12_mostEngines_37 : decode cX12_mostEngines 37 = .ok (.aload_n 0, 1) := by decide +kernel
theorem dX12_mostEngines_38 : decode cX12_mostEngines 38 = .ok (.getfield 72, 3) := by decide +kernel
theorem dX12_mostEngines_41 : decode cX12_mostEngines 41 = .ok (.iload_n 1, 1) := by decide +kernel
theorem dX12_mostEngines_42 : decode cX12_mostEngines 42 = .ok (.iaload, 1) := by decide +kernel
theorem dX12_mostEngines_43 : decode cX12_mostEngines 43 = .ok (.ishl, 1) := by decide +kernel
theorem dX12_mostEngines_44 : decode cX12_mostEngines 44 = .ok (.if_icmp .ge 254, 3) := by decide +kernel
theorem dX12_mostEngines_47 : decode cX12_mostEngines 47 = .ok (.iload_n 3, 1) := by decide +kernel
theorem dX12_mostEngines_48 : decode cX12_mostEngines 48 = .ok (.invokestatic 415, 3) := by decide +kernel
theorem dX12_mostEngines_51 : decode cX12_mostEngines 51 = .ok (.iload_n 2, 1) := by decide +kernel
theorem dX12_mostEngines_52 : decode cX12_mostEngines 52 = .ok (.if_icmp .gt 6, 3) := by decide +kernel
theorem dX12_mostEngines_55 : decode cX12_mostEngines 55 = .ok (.goto 237, 3) := by decide +kernel
theorem dX12_mostEngines_58 : decode cX12_mostEngines 58 = .ok (.iconst 0, 1) := by decide +kernel
theorem dX12_mostEngines_59 : decode cX12_mostEngines 59 = .ok (.istore 4, 2) := by decide +kernel
theorem dX12_mostEngines_61 : decode cX12_mostEngines 61 = .ok (.iconst 1, 1) := by decide +kernel
theorem dX12_mostEngines_62 : decode cX12_mostEngines 62 = .ok (.istore 5, 2) := by decide +kernel
theorem dX12_mostEngines_64 : decode cX12_mostEngines 64 = .ok (.iconst 0, 1) := by decide +kernel
theorem dX12_mostEngines_65 : decode cX12_mostEngines 65 = .ok (.istore 6, 2) := by decide +kernel
theorem dX12_mostEngines_67 : decode cX12_mostEngines 67 = .ok (.iload 6, 2) := by decide +kernel
theorem dX12_mostEngines_69 : decode cX12_mostEngines 69 = .ok (.aload_n 0, 1) := by decide +kernel
theorem dX12_mostEngines_70 : decode cX12_mostEngines 70 = .ok (.getfield 72, 3) := by decide +kernel
theorem dX12_mostEngines_73 : decode cX12_mostEngines 73 = .ok (.iload_n 1, 1) := by decide +kernel
theorem dX12_mostEngines_74 : decode cX12_mostEngines 74 = .ok (.iaload, 1) := by decide +kernel
theorem dX12_mostEngines_75 : decode cX12_mostEngines 75 = .ok (.if_icmp .ge 71, 3) := by decide +kernel
theorem dX12_mostEngines_78 : decode cX12_mostEngines 78 = .ok (.aload_n 0, 1) := by decide +kernel
theorem dX12_mostEngines_79 : decode cX12_mostEngines 79 = .ok (.getfield 75, 3) := by decide +kernel
theorem dX12_mostEngines_82 : decode cX12_mostEngines 82 = .ok (.iconst 5, 1) := by decide +kernel
theorem dX12_mostEngines_83 : decode cX12_mostEngines 83 = .ok (.iload_n 1, 1) := by decide +kernel
theorem dX12_mostEngines_84 : decode cX12_mostEngines 84 = .ok (.imul, 1) := by decide +kernel
theorem dX12_mostEngines_85 : decode cX12_mostEngines 85 = .ok (.iload 6, 2) := by decide +kernel
theorem dX12_mostEngines_87 : decode cX12_mostEngines 87 = .ok (.iadd, 1) := by decide +kernel
theorem dX12_mostEngines_88 : decode cX12_mostEngines 88 = .ok (.iaload, 1) := by decide +kernel
theorem dX12_mostEngines_89 : decode cX12_mostEngines 89 = .ok (.istore 7, 2) := by decide +kernel
theorem dX12_mostEngines_91 : decode cX12_mostEngines 91 = .ok (.iload_n 3, 1) := by decide +kernel
theorem dX12_mostEngines_92 : decode cX12_mostEngines 92 = .ok (.iload 6, 2) := by decide +kernel
theorem dX12_mostEngines_94 : decode cX12_mostEngines 94 = .ok (.ishr, 1) := by decide +kernel
theorem dX12_mostEngines_95 : decode cX12_mostEngines 95 = .ok (.iconst 1, 1) := by decide +kernel
theorem dX12_mostEngines_96 : decode cX12_mostEngines 96 = .ok (.iand, 1) := by decide +kernel
theorem dX12_mostEngines_97 : decode cX12_mostEngines 97 = .ok (.ifCond .eq 43, 3) := by decide +kernel
theorem dX12_mostEngines_100 : decode cX12_mostEngines 100 = .ok (.iload 4, 2) := by decide +kernel
theorem dX12_mostEngines_102 : decode cX12_mostEngines 102 = .ok (.aload_n 0, 1) := by decide +kernel
theorem dX12_mostEngines_103 : decode cX12_mostEngines 103 = .ok (.getfield 51, 3) := by decide +kernel
theorem dX12_mostEngines_106 : decode cX12_mostEngines 106 = .ok (.iload 7, 2) := by decide +kernel
theorem dX12_mostEngines_108 : decode cX12_mostEngines 108 = .ok (.iaload, 1) := by decide +kernel
theorem dX12_mostEngines_109 : decode cX12_mostEngines 109 = .ok (.iadd, 1) := by decide +kernel
theorem dX12_mostEngines_110 : decode cX12_mostEngines 110 = .ok (.istore 4, 2) := by decide +kernel
theorem dX12_mostEngines_112 : decode cX12_mostEngines 112 = .ok (.iload 5, 2) := by decide +kernel
theorem dX12_mostEngines_114 : decode cX12_mostEngines 114 = .ok (.aload_n 0, 1) := by decide +kernel
theorem dX12_mostEngines_115 : decode cX12_mostEngines 115 = .ok (.iload 7, 2) := by decide +kernel
theorem dX12_mostEngines_117 : decode cX12_mostEngines 117 = .ok (.invokevirtual 434, 3) := by decide +kernel
theorem dX12_mostEngines_120 : decode cX12_mostEngines 120 = .ok (.ifCond .ne 16, 3) := by decide +kernel
theorem dX12_mostEngines_123 : decode cX12_mostEngines 123 = .ok (.aload_n 0, 1) := by decide +kernel
theorem dX12_mostEngines_124 : decode cX12_mostEngines 124 = .ok (.iload 7, 2) := by decide +kernel
theorem dX12_mostEngines_126 : decode cX12_mostEngines 126 = .ok (.invokevirtual 437, 3) := by decide +kernel
theorem dX12_mostEngines_129 : decode cX12_mostEngines 129 = .ok (.ifCond .ne 7, 3) := by decide +kernel
theorem dX12_mostEngines_132 : decode cX12_mostEngines 132 = .ok (.iconst 1, 1) := by decide +kernel
theorem dX12_mostEngines_133 : decode cX12_mostEngines 133 = .ok (.goto 4, 3) := by decide +kernel
theorem dX12_mostEngines_136 : decode cX12_mostEngines 136 = .ok (.iconst 0, 1) := by decide +kernel
theorem dX12_mostEngines_137 : decode cX12_mostEngines 137 = .ok (.iand, 1) := by decide +kernel
theorem dX12_mostEngines_138 : decode cX12_mostEngines 138 = .ok (.istore 5, 2) := by decide +kernel
theorem dX12_mostEngines_140 : decode cX12_mostEngines 140 = .ok (.iinc 6 1, 3) := by decide +kernel
theorem dX12_mostEngines_143 : decode cX12_mostEngines 143 = .ok (.goto (-76), 3) := by decide +kernel
theorem dX12_mostEngines_146 : decode cX12_mostEngines 146 = .ok (.iload 5, 2) := by decide +kernel
theorem dX12_mostEngines_148 : decode cX12_mostEngines 148 = .ok (.ifCond .eq 144, 3) := by decide +kernel
theorem dX12_mostEngines_151 : decode cX12_mostEngines 151 = .ok (.iload 4, 2) := by decide +kernel
theorem dX12_mostEngines_153 : decode cX12_mostEngines 153 = .ok (.aload_n 0, 1) := by decide +kernel
theorem dX12_mostEngines_154 : decode cX12_mostEngines 154 = .ok (.getfield 425, 3) := by decide +kernel
theorem dX12_mostEngines_157 : decode cX12_mostEngines 157 = .ok (.invokestatic 415, 3) := by decide +kernel
theorem dX12_mostEngines_160 : decode cX12_mostEngines 160 = .ok (.if_icmp .le 6, 3) := by decide +kernel
theorem dX12_mostEngines_163 : decode cX12_mostEngines 163 = .ok (.goto 129, 3) := by decide +kernel
theorem dX12_mostEngines_166 : decode cX12_mostEngines 166 = .ok (.aload_n 0, 1) := by decide +kernel
theorem dX12_mostEngines_167 : decode cX12_mostEngines 167 = .ok (.invokevirtual 452, 3) := by decide +kernel
theorem dX12_mostEngines_170 : decode cX12_mostEngines 170 = .ok (.iconst 0, 1) := by decide +kernel
theorem dX12_mostEngines_171 : decode cX12_mostEngines 171 = .ok (.istore 6, 2) := by decide +kernel
theorem dX12_mostEngines_173 : decode cX12_mostEngines 173 = .ok (.iload 6, 2) := by decide +kernel
theorem dX12_mostEngines_175 : decode cX12_mostEngines 175 = .ok (.aload_n 0, 1) := by decide +kernel
theorem dX12_mostEngines_176 : decode cX12_mostEngines 176 = .ok (.getfield 72, 3) := by decide +kernel
theorem dX12_mostEngines_179 : decode cX12_mostEngines 179 = .ok (.iload_n 1, 1) := by decide +kernel
theorem dX12_mostEngines_180 : decode cX12_mostEngines 180 = .ok (.iaload, 1) := by decide +kernel
theorem dX12_mostEngines_181 : decode cX12_mostEngines 181 = .ok (.if_icmp .ge 65, 3) := by decide +kernel
theorem dX12_mostEngines_184 : decode cX12_mostEngines 184 = .ok (.aload_n 0, 1) := by decide +kernel
theorem dX12_mostEngines_185 : decode cX12_mostEngines 185 = .ok (.getfield 75, 3) := by decide +kernel
theorem dX12_mostEngines_188 : decode cX12_mostEngines 188 = .ok (.iconst 5, 1) := by decide +kernel
theorem dX12_mostEngines_189 : decode cX12_mostEngines 189 = .ok (.iload_n 1, 1) := by decide +kernel
theorem dX12_mostEngines_190 : decode cX12_mostEngines 190 = .ok (.imul, 1) := by decide +kernel
theorem dX12_mostEngines_191 : decode cX12_mostEngines 191 = .ok (.iload 6, 2) := by decide +kernel
theorem dX12_mostEngines_193 : decode cX12_mostEngines 193 = .ok (.iadd, 1) := by decide +kernel
theorem dX12_mostEngines_194 : decode cX12_mostEngines 194 = .ok (.iaload, 1) := by decide +kernel
theorem dX12_mostEngines_195 : decode cX12_mostEngines 195 = .ok (.istore 7, 2) := by decide +kernel
theorem dX12_mostEngines_197 : decode cX12_mostEngines 197 = .ok (.iconst 0, 1) := by decide +kernel
theorem dX12_mostEngines_198 : decode cX12_mostEngines 198 = .ok (.istore 8, 2) := by decide +kernel
theorem dX12_mostEngines_200 : decode cX12_mostEngines 200 = .ok (.iload 8, 2) := by decide +kernel
theorem dX12_mostEngines_202 : decode cX12_mostEngines 202 = .ok (.aload_n 0, 1) := by decide +kernel
theorem dX12_mostEngines_203 : decode cX12_mostEngines 203 = .ok (.getfield 51, 3) := by decide +kernel
theorem dX12_mostEngines_206 : decode cX12_mostEngines 206 = .ok (.iload 7, 2) := by decide +kernel
theorem dX12_mostEngines_208 : decode cX12_mostEngines 208 = .ok (.iaload, 1) := by decide +kernel
theorem dX12_mostEngines_209 : decode cX12_mostEngines 209 = .ok (.if_icmp .ge 31, 3) := by decide +kernel
theorem dX12_mostEngines_212 : decode cX12_mostEngines 212 = .ok (.iload_n 3, 1) := by decide +kernel
theorem dX12_mostEngines_213 : decode cX12_mostEngines 213 = .ok (.iload 6, 2) := by decide +kernel
theorem dX12_mostEngines_215 : decode cX12_mostEngines 215 = .ok (.ishr, 1) := by decide +kernel
theorem dX12_mostEngines_216 : decode cX12_mostEngines 216 = .ok (.iconst 1, 1) := by decide +kernel
theorem dX12_mostEngines_217 : decode cX12_mostEngines 217 = .ok (.iand, 1) := by decide +kernel
theorem dX12_mostEngines_218 : decode cX12_mostEngines 218 = .ok (.ifCond .eq 22, 3) := by decide +kernel
theorem dX12_mostEngines_221 : decode cX12_mostEngines 221 = .ok (.aload_n 0, 1) := by decide +kernel
theorem dX12_mostEngines_222 : decode cX12_mostEngines 222 = .ok (.iload 7, 2) := by decide +kernel
theorem dX12_mostEngines_224 : decode cX12_mostEngines 224 = .ok (.iload 8, 2) := by decide +kernel
theorem dX12_mostEngines_226 : decode cX12_mostEngines 226 = .ok (.aload_n 0, 1) := by decide +kernel
theorem dX12_mostEngines_227 : decode cX12_mostEngines 227 = .ok (.getfield 425, 3) := by decide +kernel
theorem dX12_mostEngines_230 : decode cX12_mostEngines 230 = .ok (.iconst 1, 1) := by decide +kernel
theorem dX12_mostEngines_231 : decode cX12_mostEngines 231 = .ok (.invokevirtual 454, 3) := by decide +kernel
theorem dX12_mostEngines_234 : decode cX12_mostEngines 234 = .ok (.iinc 8 1, 3) := by decide +kernel
theorem dX12_mostEngines_237 : decode cX12_mostEngines 237 = .ok (.goto (-37), 3) := by decide +kernel
theorem dX12_mostEngines_240 : decode cX12_mostEngines 240 = .ok (.iinc 6 1, 3) := by decide +kernel
theorem dX12_mostEngines_243 : decode cX12_mostEngines 243 = .ok (.goto (-70), 3) := by decide +kernel
theorem dX12_mostEngines_246 : decode cX12_mostEngines 246 = .ok (.iconst 0, 1) := by decide +kernel
theorem dX12_mostEngines_247 : decode cX12_mostEngines 247 = .ok (.istore 6, 2) := by decide +kernel
theorem dX12_mostEngines_249 : decode cX12_mostEngines 249 = .ok (.iconst 0, 1) := by decide +kernel
theorem dX12_mostEngines_250 : decode cX12_mostEngines 250 = .ok (.istore 7, 2) := by decide +kernel
theorem dX12_mostEngines_252 : decode cX12_mostEngines 252 = .ok (.iload 7, 2) := by decide +kernel
theorem dX12_mostEngines_254 : decode cX12_mostEngines 254 = .ok (.sipush 4096, 3) := by decide +kernel
theorem dX12_mostEngines_257 : decode cX12_mostEngines 257 = .ok (.if_icmp .ge 21, 3) := by decide +kernel
theorem dX12_mostEngines_260 : decode cX12_mostEngines 260 = .ok (.iload 6, 2) := by decide +kernel
theorem dX12_mostEngines_262 : decode cX12_mostEngines 262 = .ok (.aload_n 0, 1) := by decide +kernel
theorem dX12_mostEngines_263 : decode cX12_mostEngines 263 = .ok (.getfield 160, 3) := by decide +kernel
theorem dX12_mostEngines_266 : decode cX12_mostEngines 266 = .ok (.iload 7, 2) := by decide +kernel
theorem dX12_mostEngines_268 : decode cX12_mostEngines 268 = .ok (.baload, 1) := by decide +kernel
theorem dX12_mostEngines_269 : decode cX12_mostEngines 269 = .ok (.ior, 1) := by decide +kernel
theorem dX12_mostEngines_270 : decode cX12_mostEngines 270 = .ok (.istore 6, 2) := by decide +kernel
theorem dX12_mostEngines_272 : decode cX12_mostEngines 272 = .ok (.iinc 7 1, 3) := by decide +kernel
theorem dX12_mostEngines_275 : decode cX12_mostEngines 275 = .ok (.goto (-23), 3) := by decide +kernel
theorem dX12_mostEngines_278 : decode cX12_mostEngines 278 = .ok (.iload 6, 2) := by decide +kernel
theorem dX12_mostEngines_280 : decode cX12_mostEngines 280 = .ok (.ifCond .eq 10, 3) := by decide +kernel
theorem dX12_mostEngines_283 : decode cX12_mostEngines 283 = .ok (.iload_n 3, 1) := by decide +kernel
theorem dX12_mostEngines_284 : decode cX12_mostEngines 284 = .ok (.invokestatic 415, 3) := by decide +kernel
theorem dX12_mostEngines_287 : decode cX12_mostEngines 287 = .ok (.goto 4, 3) := by decide +kernel
theorem dX12_mostEngines_290 : decode cX12_mostEngines 290 = .ok (.iload_n 2, 1) := by decide +kernel
theorem dX12_mostEngines_291 : decode cX12_mostEngines 291 = .ok (.istore_n 2, 1) := by decide +kernel
theorem dX12_mostEngines_292 : decode cX12_mostEngines 292 = .ok (.iinc 3 1, 3) := by decide +kernel
theorem dX12_mostEngines_295 : decode cX12_mostEngines 295 = .ok (.goto (-260), 3) := by decide +kernel
theorem dX12_mostEngines_298 : decode cX12_mostEngines 298 = .ok (.iload_n 2, 1) := by decide +kernel
theorem dX12_mostEngines_299 : decode cX12_mostEngines 299 = .ok (.ireturn, 1) := by decide +kernel
abbrev M_X12_mostEngines : aM := (yX12_mostEngines.cls, cX12_mostEngines, 9, (some .int), [], yX12_mostEngines.name == "<init>")
abbrev J_X12_mostEngines (l : Launch) (E : aE) (n0 m0 : Nat) := GG (fun (v : Int32) => .inl (some (.int v))) l E M_X12_mostEngines 6 135 n0 m0
theorem b_X12_mostEngines {l : Launch} {E : aE} (hl : l.stackTraces = false) (n0 m0 : Nat) (x1 : Nat) (x2 : Int32) (h0 : aH) : J_X12_mostEngines l E n0 m0 0 [(0, .ref (e_z E + x1)), (1, .int x2)] [] h0 (m_X12_mostEngines x1 x2 h0) := by
  unfold m_X12_mostEngines
  refine g_aload_n (pc := 0) dX12_mostEngines_0 0 rfl ?_
  refine g_aload_n (pc := 1) dX12_mostEngines_1 0 rfl ?_
  refine g_iload_n (pc := 2) dX12_mostEngines_2 1 rfl ?_
  refine g_gS (fun hs => ?_)
  refine g_bRi (pc := 3) (c_V cl12 hs (p_X12_isKind hl x1 x2 h0) y_X12_isKind tw2069 dX12_mostEngines_3 rfl (st := [.ref (e_z E + x1)]) rfl (Nat.le_of_ble_eq_true rfl) (Nat.le_of_ble_eq_true rfl) (Nat.le_of_ble_eq_true rfl)) (fun x3 h1 => ?_)
  refine g_join (fun k => ∀ (x4 : Int32) (h2 : aH), J_X12_mostEngines l E n0 m0 14 [(0, .ref (e_z E + x1)), (1, .int x2)] [.int x4, .ref (e_z E + x1)] h2 (k x4 h2)) (fun x4 h2 => ?_) (fun k14 hk14 => ?_)
  · refine g_puti (pc := 14) cl12 (Nat.le_of_ble_eq_true rfl) (Or.inl ⟨rfl, fk1551⟩) (fun _ _ _ => rfl) (fun _ => ⟨rfl, rfl⟩) dX12_mostEngines_14 (fun h3 => ?_)
    refine g_aload_n (pc := 17) dX12_mostEngines_17 0 rfl ?_
    refine g_geti (pc := 18) cl12 (Nat.le_of_ble_eq_true rfl) fk1551 (fun _ _ _ => rfl) dX12_mostEngines_18 (fun x5 => ?_)
    refine g_ifle (pc := 21) (tgt := 26) dX12_mostEngines_21 rfl ?_ ?_
    · refine g_aload_n (pc := 26) dX12_mostEngines_26 0 rfl ?_
      refine g_iload_n (pc := 27) dX12_mostEngines_27 1 rfl ?_
      refine g_gS (fun hs => ?_)
      refine g_bRv (pc := 28) (c_V cl12 hs (p_X12_plans hl x1 x2 h3) y_X12_plans tw2085 dX12_mostEngines_28 rfl (st := []) rfl (Nat.le_of_ble_eq_true rfl) (Nat.le_of_ble_eq_true rfl) (Nat.le_of_ble_eq_true rfl)) (fun _ h4 => ?_)
      refine g_iconst (pc := 31) dX12_mostEngines_31 ci_0 ?_
      refine g_istore_n (pc := 32) (lv' := [(2, .int (0 : Int32)), (0, .ref (e_z E + x1)), (1, .int x2)]) dX12_mostEngines_32 (Nat.le_of_ble_eq_true rfl) rfl ?_
      refine g_iconst (pc := 33) dX12_mostEngines_33 ci_1 ?_
      refine g_istore_n (pc := 34) (lv' := [(3, .int (1 : Int32)), (2, .int (0 : Int32)), (0, .ref (e_z E + x1)), (1, .int x2)]) dX12_mostEngines_34 (Nat.le_of_ble_eq_true rfl) rfl ?_
      refine g_join (fun k => ∀ (x6 : Int32) (h5 : aH), J_X12_mostEngines l E n0 m0 298 [(2, .int x6)] [] h5 (k x6 h5)) (fun x6 h5 => ?_) (fun k298 hk298 => ?_)
      · refine g_iload_n (pc := 298) dX12_mostEngines_298 0 rfl ?_
        exact g_ret (pc := 299) rfl (isRet_i _) dX12_mostEngines_299 rfl
      refine g_lv [2, 3, 1, 0] rfl ?_
      refine g_loop2 (F := (m_X12_mostEngines_L35 x1 x2 k298)) (fun x7 x8 => [(0, .ref (e_z E + x1)), (1, .int x2), (2, .int x7), (3, .int x8)]) (fun r35 hr35 x7 x8 h6 => ?_) _ _ _ _
      unfold m_X12_mostEngines_L35
      refine g_iload_n (pc := 35) dX12_mostEngines_35 3 rfl ?_
      refine g_iconst (pc := 36) dX12_mostEngines_36 ci_1 ?_
      refine g_aload_n (pc := 37) dX12_mostEngines_37 0 rfl ?_
      refine g_getr (pc := 38) cl12 (Nat.le_of_ble_eq_true rfl) fk1577 (fun _ _ _ => rfl) dX12_mostEngines_38 (fun x9 => ?_)
      refine g_iload_n (pc := 41) dX12_mostEngines_41 1 rfl ?_
      refine g_iald (pc := 42) dX12_mostEngines_42 (fun x10 => ?_)
      refine g_ishl (pc := 43) dX12_mostEngines_43 ?_
      refine g_icmpge (pc := 44) (tgt := 298) dX12_mostEngines_44 rfl ?_ ?_
      · refine g_iload_n (pc := 47) dX12_mostEngines_47 3 rfl ?_
        refine g_bRi (pc := 48) (c_S (p_X12_many hl x8 h6) y_X12_many tw2101 dX12_mostEngines_48 rfl (st := []) rfl (Nat.le_of_ble_eq_true rfl) (Nat.le_of_ble_eq_true rfl) (Nat.le_of_ble_eq_true rfl)) (fun x11 h7 => ?_)
        refine g_iload_n (pc := 51) dX12_mostEngines_51 2 rfl ?_
        refine g_join (fun k => ∀ (x12 : Int32) (h8 : aH), J_X12_mostEngines l E n0 m0 292 [(0, .ref (e_z E + x1)), (1, .int x2), (2, .int x12), (3, .int x8)] [] h8 (k x12 h8)) (fun x12 h8 => ?_) (fun k292 hk292 => ?_)
        · refine g_iincN (pc := 292) dX12_mostEngines_292 3 rfl ci_1 (Nat.le_of_ble_eq_true rfl) (fun x13 => ?_)
          refine g_lvr (lv' := [(3, .int x13), (0, .ref (e_z E + x1)), (1, .int x2), (2, .int x12)]) rfl ?_
          refine g_goto (pc := 295) (tgt := 35) dX12_mostEngines_295 rfl ?_
          refine g_lv [1, 2, 3, 0] rfl ?_
          exact hr35 x12 x13 h8
        refine g_icmpgt (pc := 52) (tgt := 58) dX12_mostEngines_52 rfl ?_ ?_
        · refine g_goto (pc := 55) (tgt := 292) dX12_mostEngines_55 rfl ?_
          exact hk292 x7 h7
        · refine g_iconst (pc := 58) dX12_mostEngines_58 ci_0 ?_
          refine g_istore (pc := 59) (lv' := [(4, .int (0 : Int32)), (0, .ref (e_z E + x1)), (1, .int x2), (2, .int x7), (3, .int x8)]) dX12_mostEngines_59 (Nat.le_of_ble_eq_true rfl) rfl ?_
          refine g_iconst (pc := 61) dX12_mostEngines_61 ci_1 ?_
          refine g_istore (pc := 62) (lv' := [(5, .int (1 : Int32)), (4, .int (0 : Int32)), (0, .ref (e_z E + x1)), (1, .int x2), (2, .int x7), (3, .int x8)]) dX12_mostEngines_62 (Nat.le_of_ble_eq_true rfl) rfl ?_
          refine g_iconst (pc := 64) dX12_mostEngines_64 ci_0 ?_
          refine g_istore (pc := 65) (lv' := [(6, .int (0 : Int32)), (5, .int (1 : Int32)), (4, .int (0 : Int32)), (0, .ref (e_z E + x1)), (1, .int x2), (2, .int x7), (3, .int x8)]) dX12_mostEngines_65 (Nat.le_of_ble_eq_true rfl) rfl ?_
          refine g_join (fun k => ∀ (x14 : Int32) (x15 : Int32) (h9 : aH), J_X12_mostEngines l E n0 m0 146 [(0, .ref (e_z E + x1)), (1, .int x2), (2, .int x7), (3, .int x8), (4, .int x14), (5, .int x15)] [] h9 (k x14 x15 h9)) (fun x14 x15 h9 => ?_) (fun k146 hk146 => ?_)
          · refine g_iload (pc := 146) dX12_mostEngines_146 5 rfl ?_
            refine g_ifeq (pc := 148) (tgt := 292) dX12_mostEngines_148 rfl ?_ ?_
            · refine g_lv [0, 1, 2, 3] rfl ?_
              exact hk292 x7 h9
            · refine g_iload (pc := 151) dX12_mostEngines_151 4 rfl ?_
              refine g_aload_n (pc := 153) dX12_mostEngines_153 0 rfl ?_
              refine g_geti (pc := 154) cl12 (Nat.le_of_ble_eq_true rfl) fk1614 (fun _ _ _ => rfl) dX12_mostEngines_154 (fun x16 => ?_)
              refine g_bRi (pc := 157) (c_S (p_X12_many hl x16 h9) y_X12_many tw2101 dX12_mostEngines_157 rfl (st := [.int x14]) rfl (Nat.le_of_ble_eq_true rfl) (Nat.le_of_ble_eq_true rfl) (Nat.le_of_ble_eq_true rfl)) (fun x17 h10 => ?_)
              refine g_icmple (pc := 160) (tgt := 166) dX12_mostEngines_160 rfl ?_ ?_
              · refine g_aload_n (pc := 166) dX12_mostEngines_166 0 rfl ?_
                refine g_gS (fun hs => ?_)
                refine g_bRv (pc := 167) (c_V cl12 hs (p_X12_begins_ hl x1 h10) y_X12_begins_ tw2124 dX12_mostEngines_167 rfl (st := []) rfl (Nat.le_of_ble_eq_true rfl) (Nat.le_of_ble_eq_true rfl) (Nat.le_of_ble_eq_true rfl)) (fun _ h11 => ?_)
                refine g_iconst (pc := 170) dX12_mostEngines_170 ci_0 ?_
                refine g_istore (pc := 171) (lv' := [(6, .int (0 : Int32)), (0, .ref (e_z E + x1)), (1, .int x2), (2, .int x7), (3, .int x8), (4, .int x14), (5, .int x15)]) dX12_mostEngines_171 (Nat.le_of_ble_eq_true rfl) rfl ?_
                refine g_join (fun k => ∀ (h12 : aH), J_X12_mostEngines l E n0 m0 246 [(0, .ref (e_z E + x1)), (1, .int x2), (2, .int x7), (3, .int x8)] [] h12 (k h12)) (fun h12 => ?_) (fun k246 hk246 => ?_)
                · refine g_iconst (pc := 246) dX12_mostEngines_246 ci_0 ?_
                  refine g_istore (pc := 247) (lv' := [(6, .int (0 : Int32)), (0, .ref (e_z E + x1)), (1, .int x2), (2, .int x7), (3, .int x8)]) dX12_mostEngines_247 (Nat.le_of_ble_eq_true rfl) rfl ?_
                  refine g_iconst (pc := 249) dX12_mostEngines_249 ci_0 ?_
                  refine g_istore (pc := 250) (lv' := [(7, .int (0 : Int32)), (6, .int (0 : Int32)), (0, .ref (e_z E + x1)), (1, .int x2), (2, .int x7), (3, .int x8)]) dX12_mostEngines_250 (Nat.le_of_ble_eq_true rfl) rfl ?_
                  refine g_join (fun k => ∀ (x18 : Int32) (h13 : aH), J_X12_mostEngines l E n0 m0 278 [(0, .ref (e_z E + x1)), (1, .int x2), (2, .int x7), (3, .int x8), (6, .int x18)] [] h13 (k x18 h13)) (fun x18 h13 => ?_) (fun k278 hk278 => ?_)
                  · refine g_iload (pc := 278) dX12_mostEngines_278 4 rfl ?_
                    refine g_join (fun k => ∀ (x19 : Int32) (h14 : aH), J_X12_mostEngines l E n0 m0 291 [(0, .ref (e_z E + x1)), (1, .int x2), (3, .int x8)] [.int x19] h14 (k x19 h14)) (fun x19 h14 => ?_) (fun k291 hk291 => ?_)
                    · refine g_istore_n (pc := 291) (lv' := [(2, .int x19), (0, .ref (e_z E + x1)), (1, .int x2), (3, .int x8)]) dX12_mostEngines_291 (Nat.le_of_ble_eq_true rfl) rfl ?_
                      refine g_lv [1, 2, 0, 3] rfl ?_
                      exact hk292 x19 h14
                    refine g_ifeq (pc := 280) (tgt := 290) dX12_mostEngines_280 rfl ?_ ?_
                    · refine g_iload_n (pc := 290) dX12_mostEngines_290 2 rfl ?_
                      refine g_lv [0, 1, 3] rfl ?_
                      exact hk291 x7 h13
                    · refine g_iload_n (pc := 283) dX12_mostEngines_283 3 rfl ?_
                      refine g_bRi (pc := 284) (c_S (p_X12_many hl x8 h13) y_X12_many tw2101 dX12_mostEngines_284 rfl (st := []) rfl (Nat.le_of_ble_eq_true rfl) (Nat.le_of_ble_eq_true rfl) (Nat.le_of_ble_eq_true rfl)) (fun x20 h15 => ?_)
                      refine g_goto (pc := 287) (tgt := 291) dX12_mostEngines_287 rfl ?_
                      refine g_lv [0, 1, 3] rfl ?_
                      exact hk291 x20 h15
                  refine g_lv [2, 3, 4, 5, 1, 0] rfl ?_
                  refine g_loop2 (F := (m_X12_mostEngines_L252 x1 k278)) (fun x21 x22 => [(0, .ref (e_z E + x1)), (1, .int x2), (2, .int x7), (3, .int x8), (6, .int x21), (7, .int x22)]) (fun r252 hr252 x21 x22 h16 => ?_) _ _ _ _
                  unfold m_X12_mostEngines_L252
                  refine g_iload (pc := 252) dX12_mostEngines_252 5 rfl ?_
                  refine g_sipush (pc := 254) dX12_mostEngines_254 cs_4096 ?_
                  refine g_icmpge (pc := 257) (tgt := 278) dX12_mostEngines_257 rfl ?_ ?_
                  · refine g_iload (pc := 260) dX12_mostEngines_260 4 rfl ?_
                    refine g_aload_n (pc := 262) dX12_mostEngines_262 0 rfl ?_
                    refine g_getr (pc := 263) cl12 (Nat.le_of_ble_eq_true rfl) fk1621 (fun _ _ _ => rfl) dX12_mostEngines_263 (fun x23 => ?_)
                    refine g_iload (pc := 266) dX12_mostEngines_266 5 rfl ?_
                    refine g_zald (pc := 268) dX12_mostEngines_268 (fun x24 => ?_)
                    refine g_ior (pc := 269) dX12_mostEngines_269 ?_
                    refine g_topi (fun x25 => ?_)
                    refine g_istore (pc := 270) (lv' := [(6, .int x25), (0, .ref (e_z E + x1)), (1, .int x2), (2, .int x7), (3, .int x8), (7, .int x22)]) dX12_mostEngines_270 (Nat.le_of_ble_eq_true rfl) rfl ?_
                    refine g_iincN (pc := 272) dX12_mostEngines_272 5 rfl ci_1 (Nat.le_of_ble_eq_true rfl) (fun x26 => ?_)
                    refine g_lvr (lv' := [(7, .int x26), (6, .int x25), (0, .ref (e_z E + x1)), (1, .int x2), (2, .int x7), (3, .int x8)]) rfl ?_
                    refine g_goto (pc := 275) (tgt := 252) dX12_mostEngines_275 rfl ?_
                    refine g_lv [2, 3, 4, 5, 1, 0] rfl ?_
                    exact hr252 x25 x26 h16
                  · refine g_lv [0, 1, 2, 3, 4] rfl ?_
                    exact hk278 x21 h16
                refine g_lv [1, 2, 3, 4, 0] rfl ?_
                refine g_loop1 (F := (m_X12_mostEngines_L173 x1 x2 x8 k246)) (fun x27 => [(0, .ref (e_z E + x1)), (1, .int x2), (2, .int x7), (3, .int x8), (6, .int x27)]) (fun r173 hr173 x27 h17 => ?_) _ _ _
                unfold m_X12_mostEngines_L173
                refine g_iload (pc := 173) dX12_mostEngines_173 4 rfl ?_
                refine g_aload_n (pc := 175) dX12_mostEngines_175 0 rfl ?_
                refine g_getr (pc := 176) cl12 (Nat.le_of_ble_eq_true rfl) fk1577 (fun _ _ _ => rfl) dX12_mostEngines_176 (fun x28 => ?_)
                refine g_iload_n (pc := 179) dX12_mostEngines_179 1 rfl ?_
                refine g_iald (pc := 180) dX12_mostEngines_180 (fun x29 => ?_)
                refine g_icmpge (pc := 181) (tgt := 246) dX12_mostEngines_181 rfl ?_ ?_
                · refine g_aload_n (pc := 184) dX12_mostEngines_184 0 rfl ?_
                  refine g_getr (pc := 185) cl12 (Nat.le_of_ble_eq_true rfl) fk1578 (fun _ _ _ => rfl) dX12_mostEngines_185 (fun x30 => ?_)
                  refine g_iconst (pc := 188) dX12_mostEngines_188 ci_5 ?_
                  refine g_iload_n (pc := 189) dX12_mostEngines_189 1 rfl ?_
                  refine g_imul (pc := 190) dX12_mostEngines_190 ?_
                  refine g_iload (pc := 191) dX12_mostEngines_191 4 rfl ?_
                  refine g_iadd (pc := 193) dX12_mostEngines_193 ?_
                  refine g_iald (pc := 194) dX12_mostEngines_194 (fun x31 => ?_)
                  refine g_istore (pc := 195) (lv' := [(7, .int x31), (0, .ref (e_z E + x1)), (1, .int x2), (2, .int x7), (3, .int x8), (6, .int x27)]) dX12_mostEngines_195 (Nat.le_of_ble_eq_true rfl) rfl ?_
                  refine g_iconst (pc := 197) dX12_mostEngines_197 ci_0 ?_
                  refine g_istore (pc := 198) (lv' := [(8, .int (0 : Int32)), (7, .int x31), (0, .ref (e_z E + x1)), (1, .int x2), (2, .int x7), (3, .int x8), (6, .int x27)]) dX12_mostEngines_198 (Nat.le_of_ble_eq_true rfl) rfl ?_
                  refine g_join (fun k => ∀ (h18 : aH), J_X12_mostEngines l E n0 m0 240 [(0, .ref (e_z E + x1)), (1, .int x2), (2, .int x7), (3, .int x8), (6, .int x27)] [] h18 (k h18)) (fun h18 => ?_) (fun k240 hk240 => ?_)
                  · refine g_iincN (pc := 240) dX12_mostEngines_240 4 rfl ci_1 (Nat.le_of_ble_eq_true rfl) (fun x32 => ?_)
                    refine g_lvr (lv' := [(6, .int x32), (0, .ref (e_z E + x1)), (1, .int x2), (2, .int x7), (3, .int x8)]) rfl ?_
                    refine g_goto (pc := 243) (tgt := 173) dX12_mostEngines_243 rfl ?_
                    refine g_lv [1, 2, 3, 4, 0] rfl ?_
                    exact hr173 x32 h18
                  refine g_lv [2, 3, 4, 5, 6, 1, 0] rfl ?_
                  refine g_loop1 (F := (m_X12_mostEngines_L200 x1 x8 x27 x31 k240)) (fun x33 => [(0, .ref (e_z E + x1)), (1, .int x2), (2, .int x7), (3, .int x8), (6, .int x27), (7, .int x31), (8, .int x33)]) (fun r200 hr200 x33 h19 => ?_) _ _ _
                  unfold m_X12_mostEngines_L200
                  refine g_iload (pc := 200) dX12_mostEngines_200 6 rfl ?_
                  refine g_aload_n (pc := 202) dX12_mostEngines_202 0 rfl ?_
                  refine g_getr (pc := 203) cl12 (Nat.le_of_ble_eq_true rfl) fk1570 (fun _ _ _ => rfl) dX12_mostEngines_203 (fun x34 => ?_)
                  refine g_iload (pc := 206) dX12_mostEngines_206 5 rfl ?_
                  refine g_iald (pc := 208) dX12_mostEngines_208 (fun x35 => ?_)
                  refine g_icmpge (pc := 209) (tgt := 240) dX12_mostEngines_209 rfl ?_ ?_
                  · refine g_iload_n (pc := 212) dX12_mostEngines_212 3 rfl ?_
                    refine g_iload (pc := 213) dX12_mostEngines_213 4 rfl ?_
                    refine g_ishr (pc := 215) dX12_mostEngines_215 ?_
                    refine g_iconst (pc := 216) dX12_mostEngines_216 ci_1 ?_
                    refine g_iand (pc := 217) dX12_mostEngines_217 ?_
                    refine g_ifeq (pc := 218) (tgt := 240) dX12_mostEngines_218 rfl ?_ ?_
                    · refine g_lv [0, 1, 2, 3, 4] rfl ?_
                      exact hk240 h19
                    · refine g_aload_n (pc := 221) dX12_mostEngines_221 0 rfl ?_
                      refine g_iload (pc := 222) dX12_mostEngines_222 5 rfl ?_
                      refine g_iload (pc := 224) dX12_mostEngines_224 6 rfl ?_
                      refine g_aload_n (pc := 226) dX12_mostEngines_226 0 rfl ?_
                      refine g_geti (pc := 227) cl12 (Nat.le_of_ble_eq_true rfl) fk1614 (fun _ _ _ => rfl) dX12_mostEngines_227 (fun x36 => ?_)
                      refine g_iconst (pc := 230) dX12_mostEngines_230 ci_1 ?_
                      refine g_gS (fun hs => ?_)
                      refine g_bRv (pc := 231) (c_V cl12 hs (p_X12_joins hl x1 x31 x33 x36 (1 : Int32) h19) y_X12_joins tw2128 dX12_mostEngines_231 rfl (st := []) rfl (Nat.le_of_ble_eq_true rfl) (Nat.le_of_ble_eq_true rfl) (Nat.le_of_ble_eq_true rfl)) (fun _ h20 => ?_)
                      refine g_iincN (pc := 234) dX12_mostEngines_234 6 rfl ci_1 (Nat.le_of_ble_eq_true rfl) (fun x37 => ?_)
                      refine g_lvr (lv' := [(8, .int x37), (0, .ref (e_z E + x1)), (1, .int x2), (2, .int x7), (3, .int x8), (6, .int x27), (7, .int x31)]) rfl ?_
                      refine g_goto (pc := 237) (tgt := 200) dX12_mostEngines_237 rfl ?_
                      refine g_lv [1, 2, 3, 4, 5, 6, 0] rfl ?_
                      exact hr200 x37 h20
                  · refine g_lv [0, 1, 2, 3, 4] rfl ?_
                    exact hk240 h19
                · refine g_lv [0, 1, 2, 3] rfl ?_
                  exact hk246 h17
              · refine g_goto (pc := 163) (tgt := 292) dX12_mostEngines_163 rfl ?_
                refine g_lv [0, 1, 2, 3] rfl ?_
                exact hk292 x7 h10
          refine g_lv [3, 4, 5, 6, 2, 1, 0] rfl ?_
          refine g_loop3 (F := (m_X12_mostEngines_L67 x1 x2 x8 k146)) (fun x38 x39 x40 => [(0, .ref (e_z E + x1)), (1, .int x2), (2, .int x7), (3, .int x8), (4, .int x38), (5, .int x39), (6, .int x40)]) (fun r67 hr67 x38 x39 x40 h21 => ?_) _ _ _ _ _
          unfold m_X12_mostEngines_L67
          refine g_iload (pc := 67) dX12_mostEngines_67 6 rfl ?_
          refine g_aload_n (pc := 69) dX12_mostEngines_69 0 rfl ?_
          refine g_getr (pc := 70) cl12 (Nat.le_of_ble_eq_true rfl) fk1577 (fun _ _ _ => rfl) dX12_mostEngines_70 (fun x41 => ?_)
          refine g_iload_n (pc := 73) dX12_mostEngines_73 1 rfl ?_
          refine g_iald (pc := 74) dX12_mostEngines_74 (fun x42 => ?_)
          refine g_icmpge (pc := 75) (tgt := 146) dX12_mostEngines_75 rfl ?_ ?_
          · refine g_aload_n (pc := 78) dX12_mostEngines_78 0 rfl ?_
            refine g_getr (pc := 79) cl12 (Nat.le_of_ble_eq_true rfl) fk1578 (fun _ _ _ => rfl) dX12_mostEngines_79 (fun x43 => ?_)
            refine g_iconst (pc := 82) dX12_mostEngines_82 ci_5 ?_
            refine g_iload_n (pc := 83) dX12_mostEngines_83 1 rfl ?_
            refine g_imul (pc := 84) dX12_mostEngines_84 ?_
            refine g_iload (pc := 85) dX12_mostEngines_85 6 rfl ?_
            refine g_iadd (pc := 87) dX12_mostEngines_87 ?_
            refine g_iald (pc := 88) dX12_mostEngines_88 (fun x44 => ?_)
            refine g_istore (pc := 89) (lv' := [(7, .int x44), (0, .ref (e_z E + x1)), (1, .int x2), (2, .int x7), (3, .int x8), (4, .int x38), (5, .int x39), (6, .int x40)]) dX12_mostEngines_89 (Nat.le_of_ble_eq_true rfl) rfl ?_
            refine g_iload_n (pc := 91) dX12_mostEngines_91 4 rfl ?_
            refine g_iload (pc := 92) dX12_mostEngines_92 7 rfl ?_
            refine g_ishr (pc := 94) dX12_mostEngines_94 ?_
            refine g_iconst (pc := 95) dX12_mostEngines_95 ci_1 ?_
            refine g_iand (pc := 96) dX12_mostEngines_96 ?_
            refine g_join (fun k => ∀ (x45 : Int32) (x46 : Int32) (h22 : aH), J_X12_mostEngines l E n0 m0 140 [(0, .ref (e_z E + x1)), (1, .int x2), (2, .int x7), (3, .int x8), (4, .int x45), (5, .int x46), (6, .int x40)] [] h22 (k x45 x46 h22)) (fun x45 x46 h22 => ?_) (fun k140 hk140 => ?_)
            · refine g_iincN (pc := 140) dX12_mostEngines_140 6 rfl ci_1 (Nat.le_of_ble_eq_true rfl) (fun x47 => ?_)
              refine g_lvr (lv' := [(6, .int x47), (0, .ref (e_z E + x1)), (1, .int x2), (2, .int x7), (3, .int x8), (4, .int x45), (5, .int x46)]) rfl ?_
              refine g_goto (pc := 143) (tgt := 67) dX12_mostEngines_143 rfl ?_
              refine g_lv [1, 2, 3, 4, 5, 6, 0] rfl ?_
              exact hr67 x45 x46 x47 h22
            refine g_ifeq (pc := 97) (tgt := 140) dX12_mostEngines_97 rfl ?_ ?_
            · refine g_lv [1, 2, 3, 4, 5, 6, 7] rfl ?_
              exact hk140 x38 x39 h21
            · refine g_iload (pc := 100) dX12_mostEngines_100 5 rfl ?_
              refine g_aload_n (pc := 102) dX12_mostEngines_102 1 rfl ?_
              refine g_getr (pc := 103) cl12 (Nat.le_of_ble_eq_true rfl) fk1570 (fun _ _ _ => rfl) dX12_mostEngines_103 (fun x48 => ?_)
              refine g_iload (pc := 106) dX12_mostEngines_106 0 rfl ?_
              refine g_iald (pc := 108) dX12_mostEngines_108 (fun x49 => ?_)
              refine g_iadd (pc := 109) dX12_mostEngines_109 ?_
              refine g_topi (fun x50 => ?_)
              refine g_istore (pc := 110) (lv' := [(4, .int x50), (7, .int x44), (0, .ref (e_z E + x1)), (1, .int x2), (2, .int x7), (3, .int x8), (5, .int x39), (6, .int x40)]) dX12_mostEngines_110 (Nat.le_of_ble_eq_true rfl) rfl ?_
              refine g_iload (pc := 112) dX12_mostEngines_112 6 rfl ?_
              refine g_aload_n (pc := 114) dX12_mostEngines_114 2 rfl ?_
              refine g_iload (pc := 115) dX12_mostEngines_115 1 rfl ?_
              refine g_gS (fun hs => ?_)
              refine g_bRi (pc := 117) (c_V cl12 hs (p_X12_isRested hl x1 x44 h21) y_X12_isRested tw2089 dX12_mostEngines_117 rfl (st := [.int x39]) rfl (Nat.le_of_ble_eq_true rfl) (Nat.le_of_ble_eq_true rfl) (Nat.le_of_ble_eq_true rfl)) (fun x51 h23 => ?_)
              refine g_join (fun k => ∀ (x52 : Int32) (h24 : aH), J_X12_mostEngines l E n0 m0 137 [(0, .ref (e_z E + x1)), (1, .int x2), (2, .int x7), (3, .int x8), (4, .int x50), (6, .int x40)] [.int x52, .int x39] h24 (k x52 h24)) (fun x52 h24 => ?_) (fun k137 hk137 => ?_)
              · refine g_iand (pc := 137) dX12_mostEngines_137 ?_
                refine g_topi (fun x53 => ?_)
                refine g_istore (pc := 138) (lv' := [(5, .int x53), (0, .ref (e_z E + x1)), (1, .int x2), (2, .int x7), (3, .int x8), (4, .int x50), (6, .int x40)]) dX12_mostEngines_138 (Nat.le_of_ble_eq_true rfl) rfl ?_
                refine g_lv [1, 2, 3, 4, 5, 0, 6] rfl ?_
                exact hk140 x50 x53 h24
              refine g_join (fun k => ∀ (h25 : aH), J_X12_mostEngines l E n0 m0 136 [(0, .ref (e_z E + x1)), (1, .int x2), (2, .int x7), (3, .int x8), (4, .int x50), (6, .int x40)] [.int x39] h25 (k h25)) (fun h25 => ?_) (fun k136 hk136 => ?_)
              · refine g_iconst (pc := 136) dX12_mostEngines_136 ci_0 ?_
                exact hk137 (0 : Int32) h25
              refine g_ifne (pc := 120) (tgt := 136) dX12_mostEngines_120 rfl ?_ ?_
              · refine g_aload_n (pc := 123) dX12_mostEngines_123 2 rfl ?_
                refine g_iload (pc := 124) dX12_mostEngines_124 1 rfl ?_
                refine g_gS (fun hs => ?_)
                refine g_bRi (pc := 126) (c_V cl12 hs (p_X12_isEngineOut hl x1 x44 h23) y_X12_isEngineOut tw2093 dX12_mostEngines_126 rfl (st := [.int x39]) rfl (Nat.le_of_ble_eq_true rfl) (Nat.le_of_ble_eq_true rfl) (Nat.le_of_ble_eq_true rfl)) (fun x54 h26 => ?_)
                refine g_ifne (pc := 129) (tgt := 136) dX12_mostEngines_129 rfl ?_ ?_
                · refine g_iconst (pc := 132) dX12_mostEngines_132 ci_1 ?_
                  refine g_goto (pc := 133) (tgt := 137) dX12_mostEngines_133 rfl ?_
                  refine g_lv [2, 3, 4, 5, 0, 7] rfl ?_
                  exact hk137 (1 : Int32) h26
                · refine g_lv [2, 3, 4, 5, 0, 7] rfl ?_
                  exact hk136 h26
              · refine g_lv [2, 3, 4, 5, 0, 7] rfl ?_
                exact hk136 h23
          · refine g_lv [0, 1, 2, 3, 4, 5] rfl ?_
            exact hk146 x38 x39 h21
      · refine g_lv [2] rfl ?_
        exact hk298 x7 h6
    · refine g_iconst (pc := 24) dX12_mostEngines_24 ci_0 ?_
      exact g_ret (pc := 25) rfl (isRet_i _) dX12_mostEngines_25 rfl
  refine g_ifeq (pc := 6) (tgt := 13) dX12_mostEngines_6 rfl ?_ ?_
  · refine g_iconst (pc := 13) dX12_mostEngines_13 ci_1 ?_
    exact hk14 (1 : Int32) h1
  · refine g_iconst (pc := 9) dX12_mostEngines_9 ci_0 ?_
    refine g_goto (pc := 10) (tgt := 14) dX12_mostEngines_10 rfl ?_
    exact hk14 (0 : Int32) h1
theorem p_X12_mostEngines {l : Launch} {E : aE} (hl : l.stackTraces = false) (x1 : Nat) (x2 : Int32) (h0 : aH) : MO (fun (v : Int32) => .inl (some (.int v))) l E yX12_mostEngines (.code yX12_mostEngines cX12_mostEngines 9 (some .int)) 6 135 [.ref (e_z E + x1), .int x2] h0 (m_X12_mostEngines x1 x2 h0) := g_met hl (by decide +kernel) (Nat.le_of_ble_eq_true rfl) (b_X12_mostEngines hl _ _ x1 x2 h0)
theorem dX12_hoursUntilAnswered_0 : decode cX12_hoursUntilAnswered 0 = .ok (.aload_n 0, 1) := by decide +kernel
theorem dX12_hoursUntilAnswered_1 : decode cX12_hoursUntilAnswered 1 = .ok (.aload_n 0, 1) := by decide +kernel
theorem dX12_hoursUntilAnswered_2 : decode cX12_hoursUntilAnswered 2 = .ok (.iload_n 1, 1) := by decide +kernel
theorem dX12_hoursUntilAnswered_3 : decode cX12_hoursUntilAnswered 3 = .ok (.invokevirtual 443, 3) := by decide +kernel
theorem dX12_hoursUntilAnswered_6 : decode cX12_hoursUntilAnswered 6 = .ok (.ifCond .eq 7, 3) := by decide +kernel
theorem dX12_hoursUntilAnswered_9 : decode cX12_hoursUntilAnswered 9 = .ok (.iconst 0, 1) := by decide +kernel
theorem dX12_hoursUntilAnswered_10 : decode cX12_hoursUntilAnswered 10 = .ok (.goto 4, 3) := by decide +kernel
theorem dX12_hoursUntilAnswered_13 : decode cX12_hoursUntilAnswered 13 = .ok (.iconst 1, 1) := by decide +kernel
theorem dX12_hoursUntilAnswered_14 : decode cX12_hoursUntilAnswered 14 = .ok (.putfield 166, 3) := by decide +kernel
theorem dX12_hoursUntilAnswered_17 : decode cX12_hoursUntilAnswered 17 = .ok (.aload_n 0, 1) := by decide +kernel
theorem dX12_hoursUntilAnswered_18 : decode cX12_hoursUntilAnswered 18 = .ok (.getfield 166, 3) := by decide +kernel
theorem dX12_hoursUntilAnswered_21 : decode cX12_hoursUntilAnswered 21 = .ok (.ifCond .le 5, 3) := by decide +kernel
theorem dX12_hoursUntilAnswered_24 : decode cX12_hoursUntilAnswered 24 = .ok (.iconst 0, 1) := by decide +kernel
theorem dX12_hoursUntilAnswered_25 : decode cX12_hoursUntilAnswered 25 = .ok (.ireturn, 1) := by decide +kernel
theorem dX12_hoursUntilAnswered_26 : decode cX12_hoursUntilAnswered 26 = .ok (.aload_n 0, 1) := by decide +kernel
theorem dX12_hoursUntilAnswered_27 : decode cX12_hoursUntilAnswered 27 = .ok (.invokevirtual 361, 3) := by decide +kernel
theorem dX12_hoursUntilAnswered_30 : decode cX12_hoursUntilAnswered 30 = .ok (.iconst 0, 1) := by decide +kernel
theorem dX12_hoursUntilAnswered_31 : decode cX12_hoursUntilAnswered 31 = .ok (.istore_n 2, 1) := by decide +kernel
theorem dX12_hoursUntilAnswered_32 : decode cX12_hoursUntilAnswered 32 = .ok (.aload_n 0, 1) := by decide +kernel
theorem dX12_hoursUntilAnswered_33 : decode cX12_hoursUntilAnswered 33 = .ok (.iload_n 1, 1) := by decide +kernel
theorem dX12_hoursUntilAnswered_34 : decode cX12_hoursUntilAnswered 34 = .ok (.invokevirtual 458, 3) := by decide +kernel
theorem dX12_hoursUntilAnswered_37 : decode cX12_hoursUntilAnswered 37 = .ok (.istore_n 3, 1) := by decide +kernel
theorem dX12_hoursUntilAnswered_38 : decode cX12_hoursUntilAnswered 38 = .ok (.iload_n 3, 1) := by decide +kernel
theorem dX12_hoursUntilAnswered_39 : decode cX12_hoursUntilAnswered 39 = .ok (.ifCond .ne 42, 3) := by decide +kernel
theorem dX12_hoursUntilAnswered_42 : decode cX12_hoursUntilAnswered 42 = .ok (.iload_n 2, 1) := by decide +kernel
theorem dX12_hoursUntilAnswered_43 : decode cX12_hoursUntilAnswered 43 = .ok (.bipush 48, 2) := by decide +kernel
theorem dX12_hoursUntilAnswered_45 : decode cX12_hoursUntilAnswered 45 = .ok (.if_icmp .ge 36, 3) := by decide +kernel
theorem dX12_hoursUntilAnswered_48 : decode cX12_hoursUntilAnswered 48 = .ok (.iconst 0, 1) := by decide +kernel
theorem dX12_hoursUntilAnswered_49 : decode cX12_hoursUntilAnswered 49 = .ok (.istore 4, 2) := by decide +kernel
theorem dX12_hoursUntilAnswered_51 : decode cX12_hoursUntilAnswered 51 = .ok (.iload 4, 2) := by decide +kernel
theorem dX12_hoursUntilAnswered_53 : decode cX12_hoursUntilAnswered 53 = .ok (.bipush 60, 2) := by decide +kernel
theorem dX12_hoursUntilAnswered_55 : decode cX12_hoursUntilAnswered 55 = .ok (.if_icmp .ge 14, 3) := by decide +kernel
theorem dX12_hoursUntilAnswered_58 : decode cX12_hoursUntilAnswered 58 = .ok (.aload_n 0, 1) := by decide +kernel
theorem dX12_hoursUntilAnswered_59 : decode cX12_hoursUntilAnswered 59 = .ok (.invokevirtual 364, 3) := by decide +kernel
theorem dX12_hoursUntilAnswered_62 : decode cX12_hoursUntilAnswered 62 = .ok (.pop, 1) := by decide +kernel
theorem dX12_hoursUntilAnswered_63 : decode cX12_hoursUntilAnswered 63 = .ok (.iinc 4 1, 3) := by decide +kernel
theorem dX12_hoursUntilAnswered_66 : decode cX12_hoursUntilAnswered 66 = .ok (.goto (-15), 3) := by decide +kernel
theorem dX12_hoursUntilAnswered_69 : decode cX12_hoursUntilAnswered 69 = .ok (.iinc 2 1, 3) := by decide +kernel
theorem dX12_hoursUntilAnswered_72 : decode cX12_hoursUntilAnswered 72 = .ok (.aload_n 0, 1) := by decide +kernel
theorem dX12_hoursUntilAnswered_73 : decode cX12_hoursUntilAnswered 73 = .ok (.iload_n 1, 1) := by decide +kernel
theorem dX12_hoursUntilAnswered_74 : decode cX12_hoursUntilAnswered 74 = .ok (.invokevirtual 458, 3) := by decide +kernel
theorem dX12_hoursUntilAnswered_77 : decode cX12_hoursUntilAnswered 77 = .ok (.istore_n 3, 1) := by decide +kernel
theorem dX12_hoursUntilAnswered_78 : decode cX12_hoursUntilAnswered 78 = .ok (.goto (-40), 3) := by decide +kernel
theorem dX12_hoursUntilAnswered_81 : decode cX12_hoursUntilAnswered 81 = .ok (.aload_n 0, 1) := by decide +kernel
theorem dX12_hoursUntilAnswered_82 : decode cX12_hoursUntilAnswered 82 = .ok (.invokevirtual 368, 3) := by decide +kernel
theorem dX12_hoursUntilAnswered_85 : decode cX12_hoursUntilAnswered 85 = .ok (.aload_n 0, 1) := by decide +kernel
theorem dX12_hoursUntilAnswered_86 : decode cX12_hoursUntilAnswered 86 = .ok (.iload_n 3, 1) := by decide +kernel
theorem dX12_hoursUntilAnswered_87 : decode cX12_hoursUntilAnswered 87 = .ok (.ifCond .eq 7, 3) := by decide +kernel
theorem dX12_hoursUntilAnswered_90 : decode cX12_hoursUntilAnswered 90 = .ok (.iconst 0, 1) := by decide +kernel
theorem dX12_hoursUntilAnswered_91 : decode cX12_hoursUntilAnswered 91 = .ok (.goto 4, 3) := by decide +kernel
theorem dX12_hoursUntilAnswered_94 : decode cX12_hoursUntilAnswered 94 = .ok (.iconst 2, 1) := by decide +kernel
theorem dX12_hoursUntilAnswered_95 : decode cX12_hoursUntilAnswered 95 = .ok (.putfield 166, 3) := by decide +kernel
theorem dX12_hoursUntilAnswered_98 : decode cX12_hoursUntilAnswered 98 = .ok (.iload_n 3, 1) := by decide +kernel
theorem dX12_hoursUntilAnswered_99 : decode cX12_hoursUntilAnswered 99 = .ok (.ifCond .eq 7, 3) := by decide +kernel
theorem dX12_hoursUntilAnswered_102 : decode cX12_hoursUntilAnswered 102 = .ok (.iload_n 2, 1) := by decide +kernel
theorem dX12_hoursUntilAnswered_103 : decode cX12_hoursUntilAnswered 103 = .ok (.goto 4, 3) := by decide +kernel
theorem dX12_hoursUntilAnswered_106 : decode cX12_hoursUntilAnswered 106 = .ok (.iconst 0, 1) := by decide +kernel
theorem dX12_hoursUntilAnswered_107 : decode cX12_hoursUntilAnswered 107 = .ok (.ireturn, 1) := by decide +kernel
abbrev M_X12_hoursUntilAnswered : aM := (yX12_hoursUntilAnswered.cls, cX12_hoursUntilAnswered, 5, (some .int), [], yX12_hoursUntilAnswered.name == "<init>")
abbrev J_X12_hoursUntilAnswered (l : Launch) (E : aE) (n0 m0 : Nat) := GG (fun (v : Int32) => .inl (some (.int v))) l E M_X12_hoursUntilAnswered 7 156 n0 m0
theorem b_X12_hoursUntilAnswered {l : Launch} {E : aE} (hl : l.stackTraces = false) (n0 m0 : Nat) (x1 : Nat) (x2 : Int32) (h0 : aH) : J_X12_hoursUntilAnswered l E n0 m0 0 [(0, .ref (e_z E + x1)), (1, .int x2)] [] h0 (m_X12_hoursUntilAnswered x1 x2 h0) := by
  unfold m_X12_hoursUntilAnswered
  refine g_aload_n (pc := 0) dX12_hoursUntilAnswered_0 0 rfl ?_
  refine g_aload_n (pc := 1) dX12_hoursUntilAnswered_1 0 rfl ?_
  refine g_iload_n (pc := 2) dX12_hoursUntilAnswered_2 1 rfl ?_
  refine g_gS (fun hs => ?_)
  refine g_bRi (pc := 3) (c_V cl12 hs (p_X12_isKind hl x1 x2 h0) y_X12_isKind tw2069 dX12_hoursUntilAnswered_3 rfl (st := [.ref (e_z E + x1)]) rfl (Nat.le_of_ble_eq_true rfl) (Nat.le_of_ble_eq_true rfl) (Nat.le_of_ble_eq_true rfl)) (fun x3 h1 => ?_)
  refine g_join (fun k => ∀ (x4 : Int32) (h2 : aH), J_X12_hoursUntilAnswered l E n0 m0 14 [(0, .ref (e_z E + x1)), (1, .int x2)] [.int x4, .ref (e_z E + x1)] h2 (k x4 h2)) (fun x4 h2 => ?_) (fun k14 hk14 => ?_)
  · refine g_puti (pc := 14) cl12 (Nat.le_of_ble_eq_true rfl) (Or.inl ⟨rfl, fk1551⟩) (fun _ _ _ => rfl) (fun _ => ⟨rfl, rfl⟩) dX12_hoursUntilAnswered_14 (fun h3 => ?_)
    refine g_aload_n (pc := 17) dX12_hoursUntilAnswered_17 0 rfl ?_
    refine g_geti (pc := 18) cl12 (Nat.le_of_ble_eq_true rfl) fk1551 (fun _ _ _ => rfl) dX12_hoursUntilAnswered_18 (fun x5 => ?_)
    refine g_ifle (pc := 21) (tgt := 26) dX12_hoursUntilAnswered_21 rfl ?_ ?_
    · refine g_aload_n (pc := 26) dX12_hoursUntilAnswered_26 0 rfl ?_
      refine g_gS (fun hs => ?_)
      refine g_bRv (pc := 27) (c_V cl12 hs (p_X12_lays hl x1 h3) y_X12_lays tw1944 dX12_hoursUntilAnswered_27 rfl (st := []) rfl (Nat.le_of_ble_eq_true rfl) (Nat.le_of_ble_eq_true rfl) (Nat.le_of_ble_eq_true rfl)) (fun _ h4 => ?_)
      refine g_iconst (pc := 30) dX12_hoursUntilAnswered_30 ci_0 ?_
      refine g_istore_n (pc := 31) (lv' := [(2, .int (0 : Int32)), (0, .ref (e_z E + x1)), (1, .int x2)]) dX12_hoursUntilAnswered_31 (Nat.le_of_ble_eq_true rfl) rfl ?_
      refine g_aload_n (pc := 32) dX12_hoursUntilAnswered_32 1 rfl ?_
      refine g_iload_n (pc := 33) dX12_hoursUntilAnswered_33 2 rfl ?_
      refine g_gS (fun hs => ?_)
      refine g_bRi (pc := 34) (c_V cl12 hs (p_X12_answers hl x1 x2 h4) y_X12_answers tw2136 dX12_hoursUntilAnswered_34 rfl (st := []) rfl (Nat.le_of_ble_eq_true rfl) (Nat.le_of_ble_eq_true rfl) (Nat.le_of_ble_eq_true rfl)) (fun x6 h5 => ?_)
      refine g_istore_n (pc := 37) (lv' := [(3, .int x6), (2, .int (0 : Int32)), (0, .ref (e_z E + x1)), (1, .int x2)]) dX12_hoursUntilAnswered_37 (Nat.le_of_ble_eq_true rfl) rfl ?_
      refine g_join (fun k => ∀ (x7 : Int32) (x8 : Int32) (h6 : aH), J_X12_hoursUntilAnswered l E n0 m0 81 [(0, .ref (e_z E + x1)), (2, .int x7), (3, .int x8)] [] h6 (k x7 x8 h6)) (fun x7 x8 h6 => ?_) (fun k81 hk81 => ?_)
      · refine g_aload_n (pc := 81) dX12_hoursUntilAnswered_81 0 rfl ?_
        refine g_gS (fun hs => ?_)
        refine g_bRv (pc := 82) (c_V cl12 hs (p_X12_takes hl x1 h6) y_X12_takes tw1956 dX12_hoursUntilAnswered_82 rfl (st := []) rfl (Nat.le_of_ble_eq_true rfl) (Nat.le_of_ble_eq_true rfl) (Nat.le_of_ble_eq_true rfl)) (fun _ h7 => ?_)
        refine g_aload_n (pc := 85) dX12_hoursUntilAnswered_85 0 rfl ?_
        refine g_iload_n (pc := 86) dX12_hoursUntilAnswered_86 2 rfl ?_
        refine g_join (fun k => ∀ (x9 : Int32) (h8 : aH), J_X12_hoursUntilAnswered l E n0 m0 95 [(2, .int x7), (3, .int x8)] [.int x9, .ref (e_z E + x1)] h8 (k x9 h8)) (fun x9 h8 => ?_) (fun k95 hk95 => ?_)
        · refine g_puti (pc := 95) cl12 (Nat.le_of_ble_eq_true rfl) (Or.inl ⟨rfl, fk1551⟩) (fun _ _ _ => rfl) (fun _ => ⟨rfl, rfl⟩) dX12_hoursUntilAnswered_95 (fun h9 => ?_)
          refine g_iload_n (pc := 98) dX12_hoursUntilAnswered_98 1 rfl ?_
          refine g_join (fun k => ∀ (x10 : Int32) (h10 : aH), J_X12_hoursUntilAnswered l E n0 m0 107 [] [.int x10] h10 (k x10 h10)) (fun x10 h10 => ?_) (fun k107 hk107 => ?_)
          · exact g_ret (pc := 107) rfl (isRet_i _) dX12_hoursUntilAnswered_107 rfl
          refine g_ifeq (pc := 99) (tgt := 106) dX12_hoursUntilAnswered_99 rfl ?_ ?_
          · refine g_iconst (pc := 106) dX12_hoursUntilAnswered_106 ci_0 ?_
            refine g_lv [] rfl ?_
            exact hk107 (0 : Int32) h9
          · refine g_iload_n (pc := 102) dX12_hoursUntilAnswered_102 0 rfl ?_
            refine g_goto (pc := 103) (tgt := 107) dX12_hoursUntilAnswered_103 rfl ?_
            refine g_lv [] rfl ?_
            exact hk107 x7 h9
        refine g_ifeq (pc := 87) (tgt := 94) dX12_hoursUntilAnswered_87 rfl ?_ ?_
        · refine g_iconst (pc := 94) dX12_hoursUntilAnswered_94 ci_2 ?_
          refine g_lv [1, 2] rfl ?_
          exact hk95 (2 : Int32) h7
        · refine g_iconst (pc := 90) dX12_hoursUntilAnswered_90 ci_0 ?_
          refine g_goto (pc := 91) (tgt := 95) dX12_hoursUntilAnswered_91 rfl ?_
          refine g_lv [1, 2] rfl ?_
          exact hk95 (0 : Int32) h7
      refine g_lv [2, 3, 1, 0] rfl ?_
      refine g_loop2 (F := (m_X12_hoursUntilAnswered_L38 x1 x2 k81)) (fun x11 x12 => [(0, .ref (e_z E + x1)), (1, .int x2), (2, .int x11), (3, .int x12)]) (fun r38 hr38 x11 x12 h11 => ?_) _ _ _ _
      unfold m_X12_hoursUntilAnswered_L38
      refine g_iload_n (pc := 38) dX12_hoursUntilAnswered_38 3 rfl ?_
      refine g_ifne (pc := 39) (tgt := 81) dX12_hoursUntilAnswered_39 rfl ?_ ?_
      · refine g_iload_n (pc := 42) dX12_hoursUntilAnswered_42 2 rfl ?_
        refine g_bipush (pc := 43) dX12_hoursUntilAnswered_43 cb_48 ?_
        refine g_icmpge (pc := 45) (tgt := 81) dX12_hoursUntilAnswered_45 rfl ?_ ?_
        · refine g_iconst (pc := 48) dX12_hoursUntilAnswered_48 ci_0 ?_
          refine g_istore (pc := 49) (lv' := [(4, .int (0 : Int32)), (0, .ref (e_z E + x1)), (1, .int x2), (2, .int x11), (3, .int x12)]) dX12_hoursUntilAnswered_49 (Nat.le_of_ble_eq_true rfl) rfl ?_
          refine g_join (fun k => ∀ (h12 : aH), J_X12_hoursUntilAnswered l E n0 m0 69 [(0, .ref (e_z E + x1)), (1, .int x2), (2, .int x11)] [] h12 (k h12)) (fun h12 => ?_) (fun k69 hk69 => ?_)
          · refine g_iincN (pc := 69) dX12_hoursUntilAnswered_69 2 rfl ci_1 (Nat.le_of_ble_eq_true rfl) (fun x13 => ?_)
            refine g_lvr (lv' := [(2, .int x13), (0, .ref (e_z E + x1)), (1, .int x2)]) rfl ?_
            refine g_aload_n (pc := 72) dX12_hoursUntilAnswered_72 1 rfl ?_
            refine g_iload_n (pc := 73) dX12_hoursUntilAnswered_73 2 rfl ?_
            refine g_gS (fun hs => ?_)
            refine g_bRi (pc := 74) (c_V cl12 hs (p_X12_answers hl x1 x2 h12) y_X12_answers tw2136 dX12_hoursUntilAnswered_74 rfl (st := []) rfl (Nat.le_of_ble_eq_true rfl) (Nat.le_of_ble_eq_true rfl) (Nat.le_of_ble_eq_true rfl)) (fun x14 h13 => ?_)
            refine g_istore_n (pc := 77) (lv' := [(3, .int x14), (2, .int x13), (0, .ref (e_z E + x1)), (1, .int x2)]) dX12_hoursUntilAnswered_77 (Nat.le_of_ble_eq_true rfl) rfl ?_
            refine g_goto (pc := 78) (tgt := 38) dX12_hoursUntilAnswered_78 rfl ?_
            refine g_lv [2, 3, 1, 0] rfl ?_
            exact hr38 x13 x14 h13
          refine g_lv [1, 2, 3, 0] rfl ?_
          refine g_loop1 (F := (m_X12_hoursUntilAnswered_L51 x1 k69)) (fun x15 => [(0, .ref (e_z E + x1)), (1, .int x2), (2, .int x11), (4, .int x15)]) (fun r51 hr51 x15 h14 => ?_) _ _ _
          unfold m_X12_hoursUntilAnswered_L51
          refine g_iload (pc := 51) dX12_hoursUntilAnswered_51 3 rfl ?_
          refine g_bipush (pc := 53) dX12_hoursUntilAnswered_53 cb_60 ?_
          refine g_icmpge (pc := 55) (tgt := 69) dX12_hoursUntilAnswered_55 rfl ?_ ?_
          · refine g_aload_n (pc := 58) dX12_hoursUntilAnswered_58 0 rfl ?_
            refine g_gS (fun hs => ?_)
            refine g_bRi (pc := 59) (c_V cl12 hs (p_X12_minute hl x1 h14) y_X12_minute tw1948 dX12_hoursUntilAnswered_59 rfl (st := []) rfl (Nat.le_of_ble_eq_true rfl) (Nat.le_of_ble_eq_true rfl) (Nat.le_of_ble_eq_true rfl)) (fun x16 h15 => ?_)
            refine g_pop (pc := 62) rfl dX12_hoursUntilAnswered_62 ?_
            refine g_iincN (pc := 63) dX12_hoursUntilAnswered_63 3 rfl ci_1 (Nat.le_of_ble_eq_true rfl) (fun x17 => ?_)
            refine g_lvr (lv' := [(4, .int x17), (0, .ref (e_z E + x1)), (1, .int x2), (2, .int x11)]) rfl ?_
            refine g_goto (pc := 66) (tgt := 51) dX12_hoursUntilAnswered_66 rfl ?_
            refine g_lv [1, 2, 3, 0] rfl ?_
            exact hr51 x17 h15
          · refine g_lv [0, 1, 2] rfl ?_
            exact hk69 h14
        · refine g_lv [0, 2, 3] rfl ?_
          exact hk81 x11 x12 h11
      · refine g_lv [0, 2, 3] rfl ?_
        exact hk81 x11 x12 h11
    · refine g_iconst (pc := 24) dX12_hoursUntilAnswered_24 ci_0 ?_
      exact g_ret (pc := 25) rfl (isRet_i _) dX12_hoursUntilAnswered_25 rfl
  refine g_ifeq (pc := 6) (tgt := 13) dX12_hoursUntilAnswered_6 rfl ?_ ?_
  · refine g_iconst (pc := 13) dX12_hoursUntilAnswered_13 ci_1 ?_
    exact hk14 (1 : Int32) h1
  · refine g_iconst (pc := 9) dX12_hoursUntilAnswered_9 ci_0 ?_
    refine g_goto (pc := 10) (tgt := 14) dX12_hoursUntilAnswered_10 rfl ?_
    exact hk14 (0 : Int32) h1
theorem p_X12_hoursUntilAnswered {l : Launch} {E : aE} (hl : l.stackTraces = false) (x1 : Nat) (x2 : Int32) (h0 : aH) : MO (fun (v : Int32) => .inl (some (.int v))) l E yX12_hoursUntilAnswered (.code yX12_hoursUntilAnswered cX12_hoursUntilAnswered 5 (some .int)) 7 156 [.ref (e_z E + x1), .int x2] h0 (m_X12_hoursUntilAnswered x1 x2 h0) := g_met hl (by decide +kernel) (Nat.le_of_ble_eq_true rfl) (b_X12_hoursUntilAnswered hl _ _ x1 x2 h0)
theorem dX12_helpful_0 : decode cX12_helpful 0 = .ok (.iconst 0, 1) := by decide +kernel
theorem dX12_helpful_1 : decode cX12_helpful 1 = .ok (.istore_n 2, 1) := by decide +kernel
theorem dX12_helpful_2 : decode cX12_helpful 2 = .ok (.iload_n 2, 1) := by decide +kernel
theorem dX12_helpful_3 : decode cX12_helpful 3 = .ok (.aload_n 0, 1) := by decide +kernel
theorem dX12_helpful_4 : decode cX12_helpful 4 = .ok (.getfield 328, 3) := by decide +kernel
theorem dX12_helpful_7 : decode cX12_helpful 7 = .ok (.if_icmp .ge 90, 3) := by decide +kernel
theorem dX12_helpful_10 : decode cX12_helpful 10 = .ok (.iconst 0, 1) := by decide +kernel
theorem dX12_helpful_11 : decode cX12_helpful 11 = .ok (.istore_n 3, 1) := by decide +kernel
theorem dX12_helpful_12 : decode cX12_helpful 12 = .ok (.iload_n 3, 1) := by decide +kernel
theorem dX12_helpful_13 : decode cX12_helpful 13 = .ok (.aload_n 0, 1) := by decide +kernel
theorem dX12_helpful_14 : decode cX12_helpful 14 = .ok (.getfield 325, 3) := by decide +kernel
theorem dX12_helpful_17 : decode cX12_helpful 17 = .ok (.if_icmp .ge 74, 3) := by decide +kernel
theorem dX12_helpful_20 : decode cX12_helpful 20 = .ok (.aload_n 0, 1) := by decide +kernel
theorem dX12_helpful_21 : decode cX12_helpful 21 = .ok (.iload_n 2, 1) := by decide +kernel
theorem dX12_helpful_22 : decode cX12_helpful 22 = .ok (.invokevirtual 397, 3) := by decide +kernel
theorem dX12_helpful_25 : decode cX12_helpful 25 = .ok (.istore 4, 2) := by decide +kernel
theorem dX12_helpful_27 : decode cX12_helpful 27 = .ok (.aload_n 0, 1) := by decide +kernel
theorem dX12_helpful_28 : decode cX12_helpful 28 = .ok (.iload_n 2, 1) := by decide +kernel
theorem dX12_helpful_29 : decode cX12_helpful 29 = .ok (.iload_n 3, 1) := by decide +kernel
theorem dX12_helpful_30 : decode cX12_helpful 30 = .ok (.iload 4, 2) := by decide +kernel
theorem dX12_helpful_32 : decode cX12_helpful 32 = .ok (.invokevirtual 408, 3) := by decide +kernel
theorem dX12_helpful_35 : decode cX12_helpful 35 = .ok (.ifCond .ne 50, 3) := by decide +kernel
theorem dX12_helpful_38 : decode cX12_helpful 38 = .ok (.aload_n 0, 1) := by decide +kernel
theorem dX12_helpful_39 : decode cX12_helpful 39 = .ok (.iload_n 2, 1) := by decide +kernel
theorem dX12_helpful_40 : decode cX12_helpful 40 = .ok (.iload_n 3, 1) := by decide +kernel
theorem dX12_helpful_41 : decode cX12_helpful 41 = .ok (.iload 4, 2) := by decide +kernel
theorem dX12_helpful_43 : decode cX12_helpful 43 = .ok (.invokevirtual 412, 3) := by decide +kernel
theorem dX12_helpful_46 : decode cX12_helpful 46 = .ok (.aload_n 0, 1) := by decide +kernel
theorem dX12_helpful_47 : decode cX12_helpful 47 = .ok (.iload_n 1, 1) := by decide +kernel
theorem dX12_helpful_48 : decode cX12_helpful 48 = .ok (.invokevirtual 458, 3) := by decide +kernel
theorem dX12_helpful_51 : decode cX12_helpful 51 = .ok (.istore 5, 2) := by decide +kernel
theorem dX12_helpful_53 : decode cX12_helpful 53 = .ok (.aload_n 0, 1) := by decide +kernel
theorem dX12_helpful_54 : decode cX12_helpful 54 = .ok (.getfield 7, 3) := by decide +kernel
theorem dX12_helpful_57 : decode cX12_helpful 57 = .ok (.sipush 194, 3) := by decide +kernel
theorem dX12_helpful_60 : decode cX12_helpful 60 = .ok (.bipush 15, 2) := by decide +kernel
theorem dX12_helpful_62 : decode cX12_helpful 62 = .ok (.iload_n 2, 1) := by decide +kernel
theorem dX12_helpful_63 : decode cX12_helpful 63 = .ok (.imul, 1) := by decide +kernel
theorem dX12_helpful_64 : decode cX12_helpful 64 = .ok (.iadd, 1) := by decide +kernel
theorem dX12_helpful_65 : decode cX12_helpful 65 = .ok (.bipush 8, 2) := by decide +kernel
theorem dX12_helpful_67 : decode cX12_helpful 67 = .ok (.iadd, 1) := by decide +kernel
theorem dX12_helpful_68 : decode cX12_helpful 68 = .ok (.dup2, 1) := by decide +kernel
theorem dX12_helpful_69 : decode cX12_helpful 69 = .ok (.iaload, 1) := by decide +kernel
theorem dX12_helpful_70 : decode cX12_helpful 70 = .ok (.iconst 1, 1) := by decide +kernel
theorem dX12_helpful_71 : decode cX12_helpful 71 = .ok (.isub, 1) := by decide +kernel
theorem dX12_helpful_72 : decode cX12_helpful 72 = .ok (.iastore, 1) := by decide +kernel
theorem dX12_helpful_73 : decode cX12_helpful 73 = .ok (.iload 5, 2) := by decide +kernel
theorem dX12_helpful_75 : decode cX12_helpful 75 = .ok (.ifCond .eq 10, 3) := by decide +kernel
theorem dX12_helpful_78 : decode cX12_helpful 78 = .ok (.bipush 16, 2) := by decide +kernel
theorem dX12_helpful_80 : decode cX12_helpful 80 = .ok (.iload_n 2, 1) := by decide +kernel
theorem dX12_helpful_81 : decode cX12_helpful 81 = .ok (.imul, 1) := by decide +kernel
theorem dX12_helpful_82 : decode cX12_helpful 82 = .ok (.iload_n 3, 1) := by decide +kernel
theorem dX12_helpful_83 : decode cX12_helpful 83 = .ok (.iadd, 1) := by decide +kernel
theorem dX12_helpful_84 : decode cX12_helpful 84 = .ok (.ireturn, 1) := by decide +kernel
theorem dX12_helpful_85 : decode cX12_helpful 85 = .ok (.iinc 3 1, 3) := by decide +kernel
theorem dX12_helpful_88 : decode cX12_helpful 88 = .ok (.goto (-76), 3) := by decide +kernel
theorem dX12_helpful_91 : decode cX12_helpful 91 = .ok (.iinc 2 1, 3) := by decide +kernel
theorem dX12_helpful_94 : decode cX12_helpful 94 = .ok (.goto (-92), 3) := by decide +kernel
theorem dX12_helpful_97 : decode cX12_helpful 97 = .ok (.iconst (-1), 1) := by decide +kernel
theorem dX12_helpful_98 : decode cX12_helpful 98 = .ok (.ireturn, 1) := by decide +kernel
abbrev M_X12_helpful : aM := (yX12_helpful.cls, cX12_helpful, 6, (some .int), [], yX12_helpful.name == "<init>")
abbrev J_X12_helpful (l : Launch) (E : aE) (n0 m0 : Nat) := GG (fun (v : Int32) => .inl (some (.int v))) l E M_X12_helpful 7 156 n0 m0
theorem b_X12_helpful {l : Launch} {E : aE} (hl : l.stackTraces = false) (n0 m0 : Nat) (x1 : Nat) (x2 : Int32) (h0 : aH) : J_X12_helpful l E n0 m0 0 [(0, .ref (e_z E + x1)), (1, .int x2)] [] h0 (m_X12_helpful x1 x2 h0) := by
  unfold m_X12_helpful
  refine g_iconst (pc := 0) dX12_helpful_0 ci_0 ?_
  refine g_istore_n (pc := 1) (lv' := [(2, .int (0 : Int32)), (0, .ref (e_z E + x1)), (1, .int x2)]) dX12_helpful_1 (Nat.le_of_ble_eq_true rfl) rfl ?_
  refine g_join (fun k => ∀ (h1 : aH), J_X12_helpful l E n0 m0 97 [] [] h1 (k h1)) (fun h1 => ?_) (fun k97 hk97 => ?_)
  · refine g_iconst (pc := 97) dX12_helpful_97 ci_m1 ?_
    exact g_ret (pc := 98) rfl (isRet_i _) dX12_helpful_98 rfl
  refine g_join (fun k => ∀ (x3 : Int32) (x4 : Int32) (h2 : aH), J_X12_helpful l E n0 m0 78 [(2, .int x3), (3, .int x4)] [] h2 (k x3 x4 h2)) (fun x3 x4 h2 => ?_) (fun k78 hk78 => ?_)
  · refine g_bipush (pc := 78) dX12_helpful_78 cb_16 ?_
    refine g_iload_n (pc := 80) dX12_helpful_80 0 rfl ?_
    refine g_imul (pc := 81) dX12_helpful_81 ?_
    refine g_iload_n (pc := 82) dX12_helpful_82 1 rfl ?_
    refine g_iadd (pc := 83) dX12_helpful_83 ?_
    exact g_ret (pc := 84) rfl (isRet_i _) dX12_helpful_84 rfl
  refine g_lv [1, 2, 0] rfl ?_
  refine g_loop1 (F := (m_X12_helpful_L2 x1 x2 k97 k78)) (fun x5 => [(0, .ref (e_z E + x1)), (1, .int x2), (2, .int x5)]) (fun r2 hr2 x5 h3 => ?_) _ _ _
  unfold m_X12_helpful_L2
  refine g_iload_n (pc := 2) dX12_helpful_2 2 rfl ?_
  refine g_aload_n (pc := 3) dX12_helpful_3 0 rfl ?_
  refine g_geti (pc := 4) cl12 (Nat.le_of_ble_eq_true rfl) fk1560 (fun _ _ _ => rfl) dX12_helpful_4 (fun x6 => ?_)
  refine g_icmpge (pc := 7) (tgt := 97) dX12_helpful_7 rfl ?_ ?_
  · refine g_iconst (pc := 10) dX12_helpful_10 ci_0 ?_
    refine g_istore_n (pc := 11) (lv' := [(3, .int (0 : Int32)), (0, .ref (e_z E + x1)), (1, .int x2), (2, .int x5)]) dX12_helpful_11 (Nat.le_of_ble_eq_true rfl) rfl ?_
    refine g_join (fun k => ∀ (h4 : aH), J_X12_helpful l E n0 m0 91 [(0, .ref (e_z E + x1)), (1, .int x2), (2, .int x5)] [] h4 (k h4)) (fun h4 => ?_) (fun k91 hk91 => ?_)
    · refine g_iincN (pc := 91) dX12_helpful_91 2 rfl ci_1 (Nat.le_of_ble_eq_true rfl) (fun x7 => ?_)
      refine g_lvr (lv' := [(2, .int x7), (0, .ref (e_z E + x1)), (1, .int x2)]) rfl ?_
      refine g_goto (pc := 94) (tgt := 2) dX12_helpful_94 rfl ?_
      refine g_lv [1, 2, 0] rfl ?_
      exact hr2 x7 h4
    refine g_lv [1, 2, 3, 0] rfl ?_
    refine g_loop1 (F := (m_X12_helpful_L12 x1 x2 k78 x5 k91)) (fun x8 => [(0, .ref (e_z E + x1)), (1, .int x2), (2, .int x5), (3, .int x8)]) (fun r12 hr12 x8 h5 => ?_) _ _ _
    unfold m_X12_helpful_L12
    refine g_iload_n (pc := 12) dX12_helpful_12 3 rfl ?_
    refine g_aload_n (pc := 13) dX12_helpful_13 0 rfl ?_
    refine g_geti (pc := 14) cl12 (Nat.le_of_ble_eq_true rfl) fk1559 (fun _ _ _ => rfl) dX12_helpful_14 (fun x9 => ?_)
    refine g_icmpge (pc := 17) (tgt := 91) dX12_helpful_17 rfl ?_ ?_
    · refine g_aload_n (pc := 20) dX12_helpful_20 0 rfl ?_
      refine g_iload_n (pc := 21) dX12_helpful_21 2 rfl ?_
      refine g_gS (fun hs => ?_)
      refine g_bRi (pc := 22) (c_V cl12 hs (p_X12_endOf hl x1 x5 h5) y_X12_endOf tw2024 dX12_helpful_22 rfl (st := []) rfl (Nat.le_of_ble_eq_true rfl) (Nat.le_of_ble_eq_true rfl) (Nat.le_of_ble_eq_true rfl)) (fun x10 h6 => ?_)
      refine g_istore (pc := 25) (lv' := [(4, .int x10), (0, .ref (e_z E + x1)), (1, .int x2), (2, .int x5), (3, .int x8)]) dX12_helpful_25 (Nat.le_of_ble_eq_true rfl) rfl ?_
      refine g_aload_n (pc := 27) dX12_helpful_27 1 rfl ?_
      refine g_iload_n (pc := 28) dX12_helpful_28 3 rfl ?_
      refine g_iload_n (pc := 29) dX12_helpful_29 4 rfl ?_
      refine g_iload (pc := 30) dX12_helpful_30 0 rfl ?_
      refine g_gS (fun hs => ?_)
      refine g_bRi (pc := 32) (c_V cl12 hs (p_X12_against hl x1 x5 x8 x10 h6) y_X12_against tw2049 dX12_helpful_32 rfl (st := []) rfl (Nat.le_of_ble_eq_true rfl) (Nat.le_of_ble_eq_true rfl) (Nat.le_of_ble_eq_true rfl)) (fun x11 h7 => ?_)
      refine g_join (fun k => ∀ (h8 : aH), J_X12_helpful l E n0 m0 85 [(0, .ref (e_z E + x1)), (1, .int x2), (2, .int x5), (3, .int x8)] [] h8 (k h8)) (fun h8 => ?_) (fun k85 hk85 => ?_)
      · refine g_iincN (pc := 85) dX12_helpful_85 3 rfl ci_1 (Nat.le_of_ble_eq_true rfl) (fun x12 => ?_)
        refine g_lvr (lv' := [(3, .int x12), (0, .ref (e_z E + x1)), (1, .int x2), (2, .int x5)]) rfl ?_
        refine g_goto (pc := 88) (tgt := 12) dX12_helpful_88 rfl ?_
        refine g_lv [1, 2, 3, 0] rfl ?_
        exact hr12 x12 h8
      refine g_ifne (pc := 35) (tgt := 85) dX12_helpful_35 rfl ?_ ?_
      · refine g_aload_n (pc := 38) dX12_helpful_38 1 rfl ?_
        refine g_iload_n (pc := 39) dX12_helpful_39 3 rfl ?_
        refine g_iload_n (pc := 40) dX12_helpful_40 4 rfl ?_
        refine g_iload (pc := 41) dX12_helpful_41 0 rfl ?_
        refine g_gS (fun hs => ?_)
        refine g_bRv (pc := 43) (c_V cl12 hs (p_X12_hands_ hl x1 x5 x8 x10 h7) y_X12_hands_ tw2061 dX12_helpful_43 rfl (st := []) rfl (Nat.le_of_ble_eq_true rfl) (Nat.le_of_ble_eq_true rfl) (Nat.le_of_ble_eq_true rfl)) (fun _ h9 => ?_)
        refine g_aload_n (pc := 46) dX12_helpful_46 1 rfl ?_
        refine g_iload_n (pc := 47) dX12_helpful_47 2 rfl ?_
        refine g_gS (fun hs => ?_)
        refine g_bRi (pc := 48) (c_V cl12 hs (p_X12_answers hl x1 x2 h9) y_X12_answers tw2136 dX12_helpful_48 rfl (st := []) rfl (Nat.le_of_ble_eq_true rfl) (Nat.le_of_ble_eq_true rfl) (Nat.le_of_ble_eq_true rfl)) (fun x13 h10 => ?_)
        refine g_istore (pc := 51) (lv' := [(5, .int x13), (4, .int x10), (0, .ref (e_z E + x1)), (1, .int x2), (2, .int x5), (3, .int x8)]) dX12_helpful_51 (Nat.le_of_ble_eq_true rfl) rfl ?_
        refine g_aload_n (pc := 53) dX12_helpful_53 2 rfl ?_
        refine g_getr (pc := 54) cl12 (Nat.le_of_ble_eq_true rfl) fk1552 (fun _ _ _ => rfl) dX12_helpful_54 (fun x14 => ?_)
        refine g_sipush (pc := 57) dX12_helpful_57 cs_194 ?_
        refine g_bipush (pc := 60) dX12_helpful_60 cb_15 ?_
        refine g_iload_n (pc := 62) dX12_helpful_62 4 rfl ?_
        refine g_imul (pc := 63) dX12_helpful_63 ?_
        refine g_iadd (pc := 64) dX12_helpful_64 ?_
        refine g_bipush (pc := 65) dX12_helpful_65 cb_8 ?_
        refine g_iadd (pc := 67) dX12_helpful_67 ?_
        refine g_topi (fun x15 => ?_)
        refine g_dup2 (pc := 68) rfl rfl dX12_helpful_68 ?_
        refine g_iald (pc := 69) dX12_helpful_69 (fun x16 => ?_)
        refine g_iconst (pc := 70) dX12_helpful_70 ci_1 ?_
        refine g_isub (pc := 71) dX12_helpful_71 ?_
        refine g_iast (pc := 72) dX12_helpful_72 (fun h11 => ?_)
        refine g_iload (pc := 73) dX12_helpful_73 0 rfl ?_
        refine g_ifeq (pc := 75) (tgt := 85) dX12_helpful_75 rfl ?_ ?_
        · refine g_lv [2, 3, 4, 5] rfl ?_
          exact hk85 h11
        · refine g_lv [4, 5] rfl ?_
          exact hk78 x5 x8 h11
      · refine g_lv [1, 2, 3, 4] rfl ?_
        exact hk85 h7
    · refine g_lv [0, 1, 2] rfl ?_
      exact hk91 h5
  · refine g_lv [] rfl ?_
    exact hk97 h3
theorem p_X12_helpful {l : Launch} {E : aE} (hl : l.stackTraces = false) (x1 : Nat) (x2 : Int32) (h0 : aH) : MO (fun (v : Int32) => .inl (some (.int v))) l E yX12_helpful (.code yX12_helpful cX12_helpful 6 (some .int)) 7 156 [.ref (e_z E + x1), .int x2] h0 (m_X12_helpful x1 x2 h0) := g_met hl (by decide +kernel) (Nat.le_of_ble_eq_true rfl) (b_X12_helpful hl _ _ x1 x2 h0)
theorem dX12_helps_0 : decode cX12_helps 0 = .ok (.aload_n 0, 1) := by decide +kernel
theorem dX12_helps_1 : decode cX12_helps 1 = .ok (.aload_n 0, 1) := by decide +kernel
theorem dX12_helps_2 : decode cX12_helps 2 = .ok (.iload_n 1, 1) := by decide +kernel
theorem dX12_helps_3 : decode cX12_helps 3 = .ok (.invokevirtual 443, 3) := by decide +kernel
theorem dX12_helps_6 : decode cX12_helps 6 = .ok (.ifCond .eq 7, 3) := by decide +kernel
theorem dX12_helps_9 : decode cX12_helps 9 = .ok (.iconst 0, 1) := by decide +kernel
theorem dX12_helps_10 : decode cX12_helps 10 = .ok (.goto 4, 3) := by decide +kernel
theorem dX12_helps_13 : decode cX12_helps 13 = .ok (.iconst 1, 1) := by decide +kernel
theorem dX12_helps_14 : decode cX12_helps 14 = .ok (.putfield 166, 3) := by decide +kernel
theorem dX12_helps_17 : decode cX12_helps 17 = .ok (.aload_n 0, 1) := by decide +kernel
theorem dX12_helps_18 : decode cX12_helps 18 = .ok (.getfield 166, 3) := by decide +kernel
theorem dX12_helps_21 : decode cX12_helps 21 = .ok (.ifCond .le 5, 3) := by decide +kernel
theorem dX12_helps_24 : decode cX12_helps 24 = .ok (.iconst 0, 1) := by decide +kernel
theorem dX12_helps_25 : decode cX12_helps 25 = .ok (.ireturn, 1) := by decide +kernel
theorem dX12_helps_26 : decode cX12_helps 26 = .ok (.aload_n 0, 1) := by decide +kernel
theorem dX12_helps_27 : decode cX12_helps 27 = .ok (.aload_n 0, 1) := by decide +kernel
theorem dX12_helps_28 : decode cX12_helps 28 = .ok (.iload_n 1, 1) := by decide +kernel
theorem dX12_helps_29 : decode cX12_helps 29 = .ok (.invokevirtual 458, 3) := by decide +kernel
theorem dX12_helps_32 : decode cX12_helps 32 = .ok (.ifCond .eq 7, 3) := by decide +kernel
theorem dX12_helps_35 : decode cX12_helps 35 = .ok (.iconst 2, 1) := by decide +kernel
theorem dX12_helps_36 : decode cX12_helps 36 = .ok (.goto 4, 3) := by decide +kernel
theorem dX12_helps_39 : decode cX12_helps 39 = .ok (.iconst 0, 1) := by decide +kernel
theorem dX12_helps_40 : decode cX12_helps 40 = .ok (.putfield 166, 3) := by decide +kernel
theorem dX12_helps_43 : decode cX12_helps 43 = .ok (.aload_n 0, 1) := by decide +kernel
theorem dX12_helps_44 : decode cX12_helps 44 = .ok (.getfield 166, 3) := by decide +kernel
theorem dX12_helps_47 : decode cX12_helps 47 = .ok (.ifCond .le 5, 3) := by decide +kernel
theorem dX12_helps_50 : decode cX12_helps 50 = .ok (.iconst 0, 1) := by decide +kernel
theorem dX12_helps_51 : decode cX12_helps 51 = .ok (.ireturn, 1) := by decide +kernel
theorem dX12_helps_52 : decode cX12_helps 52 = .ok (.aload_n 0, 1) := by decide +kernel
theorem dX12_helps_53 : decode cX12_helps 53 = .ok (.iload_n 1, 1) := by decide +kernel
theorem dX12_helps_54 : decode cX12_helps 54 = .ok (.invokevirtual 461, 3) := by decide +kernel
theorem dX12_helps_57 : decode cX12_helps 57 = .ok (.istore_n 2, 1) := by decide +kernel
theorem dX12_helps_58 : decode cX12_helps 58 = .ok (.aload_n 0, 1) := by decide +kernel
theorem dX12_helps_59 : decode cX12_helps 59 = .ok (.iload_n 2, 1) := by decide +kernel
theorem dX12_helps_60 : decode cX12_helps 60 = .ok (.iconst (-1), 1) := by decide +kernel
theorem dX12_helps_61 : decode cX12_helps 61 = .ok (.if_icmp .ne 7, 3) := by decide +kernel
theorem dX12_helps_64 : decode cX12_helps 64 = .ok (.iconst 3, 1) := by decide +kernel
theorem dX12_helps_65 : decode cX12_helps 65 = .ok (.goto 4, 3) := by decide +kernel
theorem dX12_helps_68 : decode cX12_helps 68 = .ok (.iconst 0, 1) := by decide +kernel
theorem dX12_helps_69 : decode cX12_helps 69 = .ok (.putfield 166, 3) := by decide +kernel
theorem dX12_helps_72 : decode cX12_helps 72 = .ok (.aload_n 0, 1) := by decide +kernel
theorem dX12_helps_73 : decode cX12_helps 73 = .ok (.getfield 166, 3) := by decide +kernel
theorem dX12_helps_76 : decode cX12_helps 76 = .ok (.ifCond .le 7, 3) := by decide +kernel
theorem dX12_helps_79 : decode cX12_helps 79 = .ok (.iconst 0, 1) := by decide +kernel
theorem dX12_helps_80 : decode cX12_helps 80 = .ok (.goto 4, 3) := by decide +kernel
theorem dX12_helps_83 : decode cX12_helps 83 = .ok (.iload_n 2, 1) := by decide +kernel
theorem dX12_helps_84 : decode cX12_helps 84 = .ok (.ireturn, 1) := by decide +kernel
abbrev M_X12_helps : aM := (yX12_helps.cls, cX12_helps, 3, (some .int), [], yX12_helps.name == "<init>")
abbrev J_X12_helps (l : Launch) (E : aE) (n0 m0 : Nat) := GG (fun (v : Int32) => .inl (some (.int v))) l E M_X12_helps 8 181 n0 m0
theorem b_X12_helps {l : Launch} {E : aE} (hl : l.stackTraces = false) (n0 m0 : Nat) (x1 : Nat) (x2 : Int32) (h0 : aH) : J_X12_helps l E n0 m0 0 [(0, .ref (e_z E + x1)), (1, .int x2)] [] h0 (m_X12_helps x1 x2 h0) := by
  unfold m_X12_helps
  refine g_aload_n (pc := 0) dX12_helps_0 0 rfl ?_
  refine g_aload_n (pc := 1) dX12_helps_1 0 rfl ?_
  refine g_iload_n (pc := 2) dX12_helps_2 1 rfl ?_
  refine g_gS (fun hs => ?_)
  refine g_bRi (pc := 3) (c_V cl12 hs (p_X12_isKind hl x1 x2 h0) y_X12_isKind tw2069 dX12_helps_3 rfl (st := [.ref (e_z E + x1)]) rfl (Nat.le_of_ble_eq_true rfl) (Nat.le_of_ble_eq_true rfl) (Nat.le_of_ble_eq_true rfl)) (fun x3 h1 => ?_)
  refine g_join (fun k => ∀ (x4 : Int32) (h2 : aH), J_X12_helps l E n0 m0 14 [(0, .ref (e_z E + x1)), (1, .int x2)] [.int x4, .ref (e_z E + x1)] h2 (k x4 h2)) (fun x4 h2 => ?_) (fun k14 hk14 => ?_)
  · refine g_puti (pc := 14) cl12 (Nat.le_of_ble_eq_true rfl) (Or.inl ⟨rfl, fk1551⟩) (fun _ _ _ => rfl) (fun _ => ⟨rfl, rfl⟩) dX12_helps_14 (fun h3 => ?_)
    refine g_aload_n (pc := 17) dX12_helps_17 0 rfl ?_
    refine g_geti (pc := 18) cl12 (Nat.le_of_ble_eq_true rfl) fk1551 (fun _ _ _ => rfl) dX12_helps_18 (fun x5 => ?_)
    refine g_ifle (pc := 21) (tgt := 26) dX12_helps_21 rfl ?_ ?_
    · refine g_aload_n (pc := 26) dX12_helps_26 0 rfl ?_
      refine g_aload_n (pc := 27) dX12_helps_27 0 rfl ?_
      refine g_iload_n (pc := 28) dX12_helps_28 1 rfl ?_
      refine g_gS (fun hs => ?_)
      refine g_bRi (pc := 29) (c_V cl12 hs (p_X12_answers hl x1 x2 h3) y_X12_answers tw2136 dX12_helps_29 rfl (st := [.ref (e_z E + x1)]) rfl (Nat.le_of_ble_eq_true rfl) (Nat.le_of_ble_eq_true rfl) (Nat.le_of_ble_eq_true rfl)) (fun x6 h4 => ?_)
      refine g_join (fun k => ∀ (x7 : Int32) (h5 : aH), J_X12_helps l E n0 m0 40 [(0, .ref (e_z E + x1)), (1, .int x2)] [.int x7, .ref (e_z E + x1)] h5 (k x7 h5)) (fun x7 h5 => ?_) (fun k40 hk40 => ?_)
      · refine g_puti (pc := 40) cl12 (Nat.le_of_ble_eq_true rfl) (Or.inl ⟨rfl, fk1551⟩) (fun _ _ _ => rfl) (fun _ => ⟨rfl, rfl⟩) dX12_helps_40 (fun h6 => ?_)
        refine g_aload_n (pc := 43) dX12_helps_43 0 rfl ?_
        refine g_geti (pc := 44) cl12 (Nat.le_of_ble_eq_true rfl) fk1551 (fun _ _ _ => rfl) dX12_helps_44 (fun x8 => ?_)
        refine g_ifle (pc := 47) (tgt := 52) dX12_helps_47 rfl ?_ ?_
        · refine g_aload_n (pc := 52) dX12_helps_52 0 rfl ?_
          refine g_iload_n (pc := 53) dX12_helps_53 1 rfl ?_
          refine g_gS (fun hs => ?_)
          refine g_bRi (pc := 54) (c_V cl12 hs (p_X12_helpful hl x1 x2 h6) y_X12_helpful tw2156 dX12_helps_54 rfl (st := []) rfl (Nat.le_of_ble_eq_true rfl) (Nat.le_of_ble_eq_true rfl) (Nat.le_of_ble_eq_true rfl)) (fun x9 h7 => ?_)
          refine g_istore_n (pc := 57) (lv' := [(2, .int x9), (0, .ref (e_z E + x1)), (1, .int x2)]) dX12_helps_57 (Nat.le_of_ble_eq_true rfl) rfl ?_
          refine g_aload_n (pc := 58) dX12_helps_58 1 rfl ?_
          refine g_iload_n (pc := 59) dX12_helps_59 0 rfl ?_
          refine g_iconst (pc := 60) dX12_helps_60 ci_m1 ?_
          refine g_join (fun k => ∀ (x10 : Int32) (h8 : aH), J_X12_helps l E n0 m0 69 [(0, .ref (e_z E + x1)), (2, .int x9)] [.int x10, .ref (e_z E + x1)] h8 (k x10 h8)) (fun x10 h8 => ?_) (fun k69 hk69 => ?_)
          · refine g_puti (pc := 69) cl12 (Nat.le_of_ble_eq_true rfl) (Or.inl ⟨rfl, fk1551⟩) (fun _ _ _ => rfl) (fun _ => ⟨rfl, rfl⟩) dX12_helps_69 (fun h9 => ?_)
            refine g_aload_n (pc := 72) dX12_helps_72 0 rfl ?_
            refine g_geti (pc := 73) cl12 (Nat.le_of_ble_eq_true rfl) fk1551 (fun _ _ _ => rfl) dX12_helps_73 (fun x11 => ?_)
            refine g_join (fun k => ∀ (x12 : Int32) (h10 : aH), J_X12_helps l E n0 m0 84 [] [.int x12] h10 (k x12 h10)) (fun x12 h10 => ?_) (fun k84 hk84 => ?_)
            · exact g_ret (pc := 84) rfl (isRet_i _) dX12_helps_84 rfl
            refine g_ifle (pc := 76) (tgt := 83) dX12_helps_76 rfl ?_ ?_
            · refine g_iload_n (pc := 83) dX12_helps_83 1 rfl ?_
              refine g_lv [] rfl ?_
              exact hk84 x9 h9
            · refine g_iconst (pc := 79) dX12_helps_79 ci_0 ?_
              refine g_goto (pc := 80) (tgt := 84) dX12_helps_80 rfl ?_
              refine g_lv [] rfl ?_
              exact hk84 (0 : Int32) h9
          refine g_icmpne (pc := 61) (tgt := 68) dX12_helps_61 rfl ?_ ?_
          · refine g_iconst (pc := 64) dX12_helps_64 ci_3 ?_
            refine g_goto (pc := 65) (tgt := 69) dX12_helps_65 rfl ?_
            refine g_lv [1, 0] rfl ?_
            exact hk69 (3 : Int32) h7
          · refine g_iconst (pc := 68) dX12_helps_68 ci_0 ?_
            refine g_lv [1, 0] rfl ?_
            exact hk69 (0 : Int32) h7
        · refine g_iconst (pc := 50) dX12_helps_50 ci_0 ?_
          exact g_ret (pc := 51) rfl (isRet_i _) dX12_helps_51 rfl
      refine g_ifeq (pc := 32) (tgt := 39) dX12_helps_32 rfl ?_ ?_
      · refine g_iconst (pc := 39) dX12_helps_39 ci_0 ?_
        exact hk40 (0 : Int32) h4
      · refine g_iconst (pc := 35) dX12_helps_35 ci_2 ?_
        refine g_goto (pc := 36) (tgt := 40) dX12_helps_36 rfl ?_
        exact hk40 (2 : Int32) h4
    · refine g_iconst (pc := 24) dX12_helps_24 ci_0 ?_
      exact g_ret (pc := 25) rfl (isRet_i _) dX12_helps_25 rfl
  refine g_ifeq (pc := 6) (tgt := 13) dX12_helps_6 rfl ?_ ?_
  · refine g_iconst (pc := 13) dX12_helps_13 ci_1 ?_
    exact hk14 (1 : Int32) h1
  · refine g_iconst (pc := 9) dX12_helps_9 ci_0 ?_
    refine g_goto (pc := 10) (tgt := 14) dX12_helps_10 rfl ?_
    exact hk14 (0 : Int32) h1
theorem p_X12_helps {l : Launch} {E : aE} (hl : l.stackTraces = false) (x1 : Nat) (x2 : Int32) (h0 : aH) : MO (fun (v : Int32) => .inl (some (.int v))) l E yX12_helps (.code yX12_helps cX12_helps 3 (some .int)) 8 181 [.ref (e_z E + x1), .int x2] h0 (m_X12_helps x1 x2 h0) := g_met hl (by decide +kernel) (Nat.le_of_ble_eq_true rfl) (b_X12_helps hl _ _ x1 x2 h0)
theorem dX12_helpfulPager_0 : decode cX12_helpfulPager 0 = .ok (.aload_n 0, 1) := by decide +kernel
theorem dX12_helpfulPager_1 : decode cX12_helpfulPager 1 = .ok (.iload_n 1, 1) := by decide +kernel
theorem dX12_helpfulPager_2 : decode cX12_helpfulPager 2 = .ok (.invokevirtual 464, 3) := by decide +kernel
theorem dX12_helpfulPager_5 : decode cX12_helpfulPager 5 = .ok (.bipush 16, 2) := by decide +kernel
theorem dX12_helpfulPager_7 : decode cX12_helpfulPager 7 = .ok (.idiv, 1) := by decide +kernel
theorem dX12_helpfulPager_8 : decode cX12_helpfulPager 8 = .ok (.ireturn, 1) := by decide +kernel
abbrev M_X12_helpfulPager : aM := (yX12_helpfulPager.cls, cX12_helpfulPager, 2, (some .int), [], yX12_helpfulPager.name == "<init>")
abbrev J_X12_helpfulPager (l : Launch) (E : aE) (n0 m0 : Nat) := GG (fun (v : Int32) => .inl (some (.int v))) l E M_X12_helpfulPager 9 203 n0 m0
theorem b_X12_helpfulPager {l : Launch} {E : aE} (hl : l.stackTraces = false) (n0 m0 : Nat) (x1 : Nat) (x2 : Int32) (h0 : aH) : J_X12_helpfulPager l E n0 m0 0 [(0, .ref (e_z E + x1)), (1, .int x2)] [] h0 (m_X12_helpfulPager x1 x2 h0) := by
  unfold m_X12_helpfulPager
  refine g_aload_n (pc := 0) dX12_helpfulPager_0 0 rfl ?_
  refine g_iload_n (pc := 1) dX12_helpfulPager_1 1 rfl ?_
  refine g_gS (fun hs => ?_)
  refine g_bRi (pc := 2) (c_V cl12 hs (p_X12_helps hl x1 x2 h0) y_X12_helps tw2152 dX12_helpfulPager_2 rfl (st := []) rfl (Nat.le_of_ble_eq_true rfl) (Nat.le_of_ble_eq_true rfl) (Nat.le_of_ble_eq_true rfl)) (fun x3 h1 => ?_)
  refine g_bipush (pc := 5) dX12_helpfulPager_5 cb_16 ?_
  refine g_idiv (pc := 7) dX12_helpfulPager_7 (fun x4 => ?_)
  exact g_ret (pc := 8) rfl (isRet_i _) dX12_helpfulPager_8 rfl
theorem p_X12_helpfulPager {l : Launch} {E : aE} (hl : l.stackTraces = false) (x1 : Nat) (x2 : Int32) (h0 : aH) : MO (fun (v : Int32) => .inl (some (.int v))) l E yX12_helpfulPager (.code yX12_helpfulPager cX12_helpfulPager 2 (some .int)) 9 203 [.ref (e_z E + x1), .int x2] h0 (m_X12_helpfulPager x1 x2 h0) := g_met hl (by decide +kernel) (Nat.le_of_ble_eq_true rfl) (b_X12_helpfulPager hl _ _ x1 x2 h0)
theorem dX12_helpfulPerson_0 : decode cX12_helpfulPerson 0 = .ok (.aload_n 0, 1) := by decide +kernel
theorem dX12_helpfulPerson_1 : decode cX12_helpfulPerson 1 = .ok (.iload_n 1, 1) := by decide +kernel
theorem dX12_helpfulPerson_2 : decode cX12_helpfulPerson 2 = .ok (.invokevirtual 464, 3) := by decide +kernel
theorem dX12_helpfulPerson_5 : decode cX12_helpfulPerson 5 = .ok (.bipush 16, 2) := by decide +kernel
theorem dX12_helpfulPerson_7 : decode cX12_helpfulPerson 7 = .ok (.irem, 1) := by decide +kernel
theorem dX12_helpfulPerson_8 : decode cX12_helpfulPerson 8 = .ok (.ireturn, 1) := by decide +kernel
abbrev M_X12_helpfulPerson : aM := (yX12_helpfulPerson.cls, cX12_helpfulPerson, 2, (some .int), [], yX12_helpfulPerson.name == "<init>")
abbrev J_X12_helpfulPerson (l : Launch) (E : aE) (n0 m0 : Nat) := GG (fun (v : Int32) => .inl (some (.int v))) l E M_X12_helpfulPerson 9 203 n0 m0
theorem b_X12_helpfulPerson {l : Launch} {E : aE} (hl : l.stackTraces = false) (n0 m0 : Nat) (x1 : Nat) (x2 : Int32) (h0 : aH) : J_X12_helpfulPerson l E n0 m0 0 [(0, .ref (e_z E + x1)), (1, .int x2)] [] h0 (m_X12_helpfulPerson x1 x2 h0) := by
  unfold m_X12_helpfulPerson
  refine g_aload_n (pc := 0) dX12_helpfulPerson_0 0 rfl ?_
  refine g_iload_n (pc := 1) dX12_helpfulPerson_1 1 rfl ?_
  refine g_gS (fun hs => ?_)
  refine g_bRi (pc := 2) (c_V cl12 hs (p_X12_helps hl x1 x2 h0) y_X12_helps tw2152 dX12_helpfulPerson_2 rfl (st := []) rfl (Nat.le_of_ble_eq_true rfl) (Nat.le_of_ble_eq_true rfl) (Nat.le_of_ble_eq_true rfl)) (fun x3 h1 => ?_)
  refine g_bipush (pc := 5) dX12_helpfulPerson_5 cb_16 ?_
  refine g_irem (pc := 7) dX12_helpfulPerson_7 (fun x4 => ?_)
  exact g_ret (pc := 8) rfl (isRet_i _) dX12_helpfulPerson_8 rfl
theorem p_X12_helpfulPerson {l : Launch} {E : aE} (hl : l.stackTraces = false) (x1 : Nat) (x2 : Int32) (h0 : aH) : MO (fun (v : Int32) => .inl (some (.int v))) l E yX12_helpfulPerson (.code yX12_helpfulPerson cX12_helpfulPerson 2 (some .int)) 9 203 [.ref (e_z E + x1), .int x2] h0 (m_X12_helpfulPerson x1 x2 h0) := g_met hl (by decide +kernel) (Nat.le_of_ble_eq_true rfl) (b_X12_helpfulPerson hl _ _ x1 x2 h0)
theorem dX12_isCall_0 : decode cX12_isCall 0 = .ok (.iload_n 1, 1) := by decide +kernel
theorem dX12_isCall_1 : decode cX12_isCall 1 = .ok (.i2l, 1) := by decide +kernel
theorem dX12_isCall_2 : decode cX12_isCall 2 = .ok (.lconst 0, 1) := by decide +kernel
theorem dX12_isCall_3 : decode cX12_isCall 3 = .ok (.aload_n 0, 1) := by decide +kernel
theorem dX12_isCall_4 : decode cX12_isCall 4 = .ok (.getfield 7, 3) := by decide +kernel
theorem dX12_isCall_7 : decode cX12_isCall 7 = .ok (.iconst 1, 1) := by decide +kernel
theorem dX12_isCall_8 : decode cX12_isCall 8 = .ok (.iaload, 1) := by decide +kernel
theorem dX12_isCall_9 : decode cX12_isCall 9 = .ok (.iconst 1, 1) := by decide +kernel
theorem dX12_isCall_10 : decode cX12_isCall 10 = .ok (.isub, 1) := by decide +kernel
theorem dX12_isCall_11 : decode cX12_isCall 11 = .ok (.i2l, 1) := by decide +kernel
theorem dX12_isCall_12 : decode cX12_isCall 12 = .ok (.invokestatic 176, 3) := by decide +kernel
theorem dX12_isCall_15 : decode cX12_isCall 15 = .ok (.ireturn, 1) := by decide +kernel
abbrev M_X12_isCall : aM := (yX12_isCall.cls, cX12_isCall, 2, (some .boolean), [], yX12_isCall.name == "<init>")
abbrev J_X12_isCall (l : Launch) (E : aE) (n0 m0 : Nat) := GG (fun (v : Int32) => .inl (some (.int v))) l E M_X12_isCall 1 25 n0 m0
theorem b_X12_isCall {l : Launch} {E : aE} (hl : l.stackTraces = false) (n0 m0 : Nat) (x1 : Nat) (x2 : Int32) (h0 : aH) : J_X12_isCall l E n0 m0 0 [(0, .ref (e_z E + x1)), (1, .int x2)] [] h0 (m_X12_isCall x1 x2 h0) := by
  unfold m_X12_isCall
  refine g_iload_n (pc := 0) dX12_isCall_0 1 rfl ?_
  refine g_i2l (pc := 1) dX12_isCall_1 ?_
  refine g_lconst (pc := 2) dX12_isCall_2 cl_0 ?_
  refine g_aload_n (pc := 3) dX12_isCall_3 0 rfl ?_
  refine g_getr (pc := 4) cl12 (Nat.le_of_ble_eq_true rfl) fk1552 (fun _ _ _ => rfl) dX12_isCall_4 (fun x3 => ?_)
  refine g_iconst (pc := 7) dX12_isCall_7 ci_1 ?_
  refine g_iald (pc := 8) dX12_isCall_8 (fun x4 => ?_)
  refine g_iconst (pc := 9) dX12_isCall_9 ci_1 ?_
  refine g_isub (pc := 10) dX12_isCall_10 ?_
  refine g_i2l (pc := 11) dX12_isCall_11 ?_
  refine g_bRi (pc := 12) (c_S (p_X12_in hl (x2.toInt64) (0 : Int64) ((x4 - (1 : Int32)).toInt64) h0) y_X12_in tw1782 dX12_isCall_12 rfl (st := []) rfl (Nat.le_of_ble_eq_true rfl) (Nat.le_of_ble_eq_true rfl) (Nat.le_of_ble_eq_true rfl)) (fun x5 h1 => ?_)
  refine g_zO (fun hz => ?_)
  exact g_ret (pc := 15) rfl (isRet_z hz) dX12_isCall_15 rfl
theorem p_X12_isCall {l : Launch} {E : aE} (hl : l.stackTraces = false) (x1 : Nat) (x2 : Int32) (h0 : aH) : MO (fun (v : Int32) => .inl (some (.int v))) l E yX12_isCall (.code yX12_isCall cX12_isCall 2 (some .boolean)) 1 25 [.ref (e_z E + x1), .int x2] h0 (m_X12_isCall x1 x2 h0) := g_met hl (by decide +kernel) (Nat.le_of_ble_eq_true rfl) (b_X12_isCall hl _ _ x1 x2 h0)
theorem dX12_callAt_0 : decode cX12_callAt 0 = .ok (.aload_n 0, 1) := by decide +kernel
theorem dX12_callAt_1 : decode cX12_callAt 1 = .ok (.getfield 7, 3) := by decide +kernel
theorem dX12_callAt_4 : decode cX12_callAt 4 = .ok (.sipush 299, 3) := by decide +kernel
theorem dX12_callAt_7 : decode cX12_callAt 7 = .ok (.bipush 19, 2) := by decide +kernel
theorem dX12_callAt_9 : decode cX12_callAt 9 = .ok (.iload_n 1, 1) := by decide +kernel
theorem dX12_callAt_10 : decode cX12_callAt 10 = .ok (.imul, 1) := by decide +kernel
theorem dX12_callAt_11 : decode cX12_callAt 11 = .ok (.iadd, 1) := by decide +kernel
theorem dX12_callAt_12 : decode cX12_callAt 12 = .ok (.iload_n 2, 1) := by decide +kernel
theorem dX12_callAt_13 : decode cX12_callAt 13 = .ok (.iadd, 1) := by decide +kernel
theorem dX12_callAt_14 : decode cX12_callAt 14 = .ok (.iaload, 1) := by decide +kernel
theorem dX12_callAt_15 : decode cX12_callAt 15 = .ok (.ireturn, 1) := by decide +kernel
abbrev M_X12_callAt : aM := (yX12_callAt.cls, cX12_callAt, 3, (some .int), [], yX12_callAt.name == "<init>")
abbrev J_X12_callAt (l : Launch) (E : aE) (n0 m0 : Nat) := GG (fun (v : Int32) => .inl (some (.int v))) l E M_X12_callAt 0 0 n0 m0
theorem b_X12_callAt {l : Launch} {E : aE} (hl : l.stackTraces = false) (n0 m0 : Nat) (x1 : Nat) (x2 : Int32) (x3 : Int32) (h0 : aH) : J_X12_callAt l E n0 m0 0 [(0, .ref (e_z E + x1)), (1, .int x2), (2, .int x3)] [] h0 (m_X12_callAt x1 x2 x3 h0) := by
  unfold m_X12_callAt
  refine g_aload_n (pc := 0) dX12_callAt_0 0 rfl ?_
  refine g_getr (pc := 1) cl12 (Nat.le_of_ble_eq_true rfl) fk1552 (fun _ _ _ => rfl) dX12_callAt_1 (fun x4 => ?_)
  refine g_sipush (pc := 4) dX12_callAt_4 cs_299 ?_
  refine g_bipush (pc := 7) dX12_callAt_7 cb_19 ?_
  refine g_iload_n (pc := 9) dX12_callAt_9 1 rfl ?_
  refine g_imul (pc := 10) dX12_callAt_10 ?_
  refine g_iadd (pc := 11) dX12_callAt_11 ?_
  refine g_iload_n (pc := 12) dX12_callAt_12 2 rfl ?_
  refine g_iadd (pc := 13) dX12_callAt_13 ?_
  refine g_iald (pc := 14) dX12_callAt_14 (fun x5 => ?_)
  exact g_ret (pc := 15) rfl (isRet_i _) dX12_callAt_15 rfl
theorem p_X12_callAt {l : Launch} {E : aE} (hl : l.stackTraces = false) (x1 : Nat) (x2 : Int32) (x3 : Int32) (h0 : aH) : MO (fun (v : Int32) => .inl (some (.int v))) l E yX12_callAt (.code yX12_callAt cX12_callAt 3 (some .int)) 0 0 [.ref (e_z E + x1), .int x2, .int x3] h0 (m_X12_callAt x1 x2 x3 h0) := g_met hl (by decide +kernel) (Nat.le_of_ble_eq_true rfl) (b_X12_callAt hl _ _ x1 x2 x3 h0)
theorem dX12_returnsAt_0 : decode cX12_returnsAt 0 = .ok (.aload_n 0, 1) := by decide +kernel
theorem dX12_returnsAt_1 : decode cX12_returnsAt 1 = .ok (.iload_n 1, 1) := by decide +kernel
theorem dX12_returnsAt_2 : decode cX12_returnsAt 2 = .ok (.i2l, 1) := by decide +kernel
theorem dX12_returnsAt_3 : decode cX12_returnsAt 3 = .ok (.lconst 0, 1) := by decide +kernel
theorem dX12_returnsAt_4 : decode cX12_returnsAt 4 = .ok (.aload_n 0, 1) := by decide +kernel
theorem dX12_returnsAt_5 : decode cX12_returnsAt 5 = .ok (.getfield 331, 3) := by decide +kernel
theorem dX12_returnsAt_8 : decode cX12_returnsAt 8 = .ok (.iconst 1, 1) := by decide +kernel
theorem dX12_returnsAt_9 : decode cX12_returnsAt 9 = .ok (.isub, 1) := by decide +kernel
theorem dX12_returnsAt_10 : decode cX12_returnsAt 10 = .ok (.i2l, 1) := by decide +kernel
theorem dX12_returnsAt_11 : decode cX12_returnsAt 11 = .ok (.invokestatic 176, 3) := by decide +kernel
theorem dX12_returnsAt_14 : decode cX12_returnsAt 14 = .ok (.ifCond .eq 7, 3) := by decide +kernel
theorem dX12_returnsAt_17 : decode cX12_returnsAt 17 = .ok (.iconst 0, 1) := by decide +kernel
theorem dX12_returnsAt_18 : decode cX12_returnsAt 18 = .ok (.goto 4, 3) := by decide +kernel
theorem dX12_returnsAt_21 : decode cX12_returnsAt 21 = .ok (.iconst 1, 1) := by decide +kernel
theorem dX12_returnsAt_22 : decode cX12_returnsAt 22 = .ok (.putfield 166, 3) := by decide +kernel
theorem dX12_returnsAt_25 : decode cX12_returnsAt 25 = .ok (.aload_n 0, 1) := by decide +kernel
theorem dX12_returnsAt_26 : decode cX12_returnsAt 26 = .ok (.getfield 166, 3) := by decide +kernel
theorem dX12_returnsAt_29 : decode cX12_returnsAt 29 = .ok (.ifCond .le 7, 3) := by decide +kernel
theorem dX12_returnsAt_32 : decode cX12_returnsAt 32 = .ok (.iconst 0, 1) := by decide +kernel
theorem dX12_returnsAt_33 : decode cX12_returnsAt 33 = .ok (.goto 29, 3) := by decide +kernel
theorem dX12_returnsAt_36 : decode cX12_returnsAt 36 = .ok (.aload_n 0, 1) := by decide +kernel
theorem dX12_returnsAt_37 : decode cX12_returnsAt 37 = .ok (.iload_n 1, 1) := by decide +kernel
theorem dX12_returnsAt_38 : decode cX12_returnsAt 38 = .ok (.invokevirtual 437, 3) := by decide +kernel
theorem dX12_returnsAt_41 : decode cX12_returnsAt 41 = .ok (.ifCond .eq 20, 3) := by decide +kernel
theorem dX12_returnsAt_44 : decode cX12_returnsAt 44 = .ok (.aload_n 0, 1) := by decide +kernel
theorem dX12_returnsAt_45 : decode cX12_returnsAt 45 = .ok (.getfield 7, 3) := by decide +kernel
theorem dX12_returnsAt_48 : decode cX12_returnsAt 48 = .ok (.sipush 284, 3) := by decide +kernel
theorem dX12_returnsAt_51 : decode cX12_returnsAt 51 = .ok (.iconst 3, 1) := by decide +kernel
theorem dX12_returnsAt_52 : decode cX12_returnsAt 52 = .ok (.iload_n 1, 1) := by decide +kernel
theorem dX12_returnsAt_53 : decode cX12_returnsAt 53 = .ok (.imul, 1) := by decide +kernel
theorem dX12_returnsAt_54 : decode cX12_returnsAt 54 = .ok (.iadd, 1) := by decide +kernel
theorem dX12_returnsAt_55 : decode cX12_returnsAt 55 = .ok (.iconst 0, 1) := by decide +kernel
theorem dX12_returnsAt_56 : decode cX12_returnsAt 56 = .ok (.iadd, 1) := by decide +kernel
theorem dX12_returnsAt_57 : decode cX12_returnsAt 57 = .ok (.iaload, 1) := by decide +kernel
theorem dX12_returnsAt_58 : decode cX12_returnsAt 58 = .ok (.goto 4, 3) := by decide +kernel
theorem dX12_returnsAt_61 : decode cX12_returnsAt 61 = .ok (.iconst (-1), 1) := by decide +kernel
theorem dX12_returnsAt_62 : decode cX12_returnsAt 62 = .ok (.ireturn, 1) := by decide +kernel
abbrev M_X12_returnsAt : aM := (yX12_returnsAt.cls, cX12_returnsAt, 2, (some .int), [], yX12_returnsAt.name == "<init>")
abbrev J_X12_returnsAt (l : Launch) (E : aE) (n0 m0 : Nat) := GG (fun (v : Int32) => .inl (some (.int v))) l E M_X12_returnsAt 1 25 n0 m0
theorem b_X12_returnsAt {l : Launch} {E : aE} (hl : l.stackTraces = false) (n0 m0 : Nat) (x1 : Nat) (x2 : Int32) (h0 : aH) : J_X12_returnsAt l E n0 m0 0 [(0, .ref (e_z E + x1)), (1, .int x2)] [] h0 (m_X12_returnsAt x1 x2 h0) := by
  unfold m_X12_returnsAt
  refine g_aload_n (pc := 0) dX12_returnsAt_0 0 rfl ?_
  refine g_iload_n (pc := 1) dX12_returnsAt_1 1 rfl ?_
  refine g_i2l (pc := 2) dX12_returnsAt_2 ?_
  refine g_lconst (pc := 3) dX12_returnsAt_3 cl_0 ?_
  refine g_aload_n (pc := 4) dX12_returnsAt_4 0 rfl ?_
  refine g_geti (pc := 5) cl12 (Nat.le_of_ble_eq_true rfl) fk1561 (fun _ _ _ => rfl) dX12_returnsAt_5 (fun x3 => ?_)
  refine g_iconst (pc := 8) dX12_returnsAt_8 ci_1 ?_
  refine g_isub (pc := 9) dX12_returnsAt_9 ?_
  refine g_i2l (pc := 10) dX12_returnsAt_10 ?_
  refine g_bRi (pc := 11) (c_S (p_X12_in hl (x2.toInt64) (0 : Int64) ((x3 - (1 : Int32)).toInt64) h0) y_X12_in tw1782 dX12_returnsAt_11 rfl (st := [.ref (e_z E + x1)]) rfl (Nat.le_of_ble_eq_true rfl) (Nat.le_of_ble_eq_true rfl) (Nat.le_of_ble_eq_true rfl)) (fun x4 h1 => ?_)
  refine g_join (fun k => ∀ (x5 : Int32) (h2 : aH), J_X12_returnsAt l E n0 m0 22 [(0, .ref (e_z E + x1)), (1, .int x2)] [.int x5, .ref (e_z E + x1)] h2 (k x5 h2)) (fun x5 h2 => ?_) (fun k22 hk22 => ?_)
  · refine g_puti (pc := 22) cl12 (Nat.le_of_ble_eq_true rfl) (Or.inl ⟨rfl, fk1551⟩) (fun _ _ _ => rfl) (fun _ => ⟨rfl, rfl⟩) dX12_returnsAt_22 (fun h3 => ?_)
    refine g_aload_n (pc := 25) dX12_returnsAt_25 0 rfl ?_
    refine g_geti (pc := 26) cl12 (Nat.le_of_ble_eq_true rfl) fk1551 (fun _ _ _ => rfl) dX12_returnsAt_26 (fun x6 => ?_)
    refine g_join (fun k => ∀ (x7 : Int32) (h4 : aH), J_X12_returnsAt l E n0 m0 62 [] [.int x7] h4 (k x7 h4)) (fun x7 h4 => ?_) (fun k62 hk62 => ?_)
    · exact g_ret (pc := 62) rfl (isRet_i _) dX12_returnsAt_62 rfl
    refine g_ifle (pc := 29) (tgt := 36) dX12_returnsAt_29 rfl ?_ ?_
    · refine g_aload_n (pc := 36) dX12_returnsAt_36 0 rfl ?_
      refine g_iload_n (pc := 37) dX12_returnsAt_37 1 rfl ?_
      refine g_gS (fun hs => ?_)
      refine g_bRi (pc := 38) (c_V cl12 hs (p_X12_isEngineOut hl x1 x2 h3) y_X12_isEngineOut tw2093 dX12_returnsAt_38 rfl (st := []) rfl (Nat.le_of_ble_eq_true rfl) (Nat.le_of_ble_eq_true rfl) (Nat.le_of_ble_eq_true rfl)) (fun x8 h5 => ?_)
      refine g_ifeq (pc := 41) (tgt := 61) dX12_returnsAt_41 rfl ?_ ?_
      · refine g_iconst (pc := 61) dX12_returnsAt_61 ci_m1 ?_
        refine g_lv [] rfl ?_
        exact hk62 (-1 : Int32) h5
      · refine g_aload_n (pc := 44) dX12_returnsAt_44 0 rfl ?_
        refine g_getr (pc := 45) cl12 (Nat.le_of_ble_eq_true rfl) fk1552 (fun _ _ _ => rfl) dX12_returnsAt_45 (fun x9 => ?_)
        refine g_sipush (pc := 48) dX12_returnsAt_48 cs_284 ?_
        refine g_iconst (pc := 51) dX12_returnsAt_51 ci_3 ?_
        refine g_iload_n (pc := 52) dX12_returnsAt_52 1 rfl ?_
        refine g_imul (pc := 53) dX12_returnsAt_53 ?_
        refine g_iadd (pc := 54) dX12_returnsAt_54 ?_
        refine g_iconst (pc := 55) dX12_returnsAt_55 ci_0 ?_
        refine g_iadd (pc := 56) dX12_returnsAt_56 ?_
        refine g_iald (pc := 57) dX12_returnsAt_57 (fun x10 => ?_)
        refine g_goto (pc := 58) (tgt := 62) dX12_returnsAt_58 rfl ?_
        refine g_lv [] rfl ?_
        exact hk62 x10 h5
    · refine g_iconst (pc := 32) dX12_returnsAt_32 ci_0 ?_
      refine g_goto (pc := 33) (tgt := 62) dX12_returnsAt_33 rfl ?_
      refine g_lv [] rfl ?_
      exact hk62 (0 : Int32) h3
  refine g_ifeq (pc := 14) (tgt := 21) dX12_returnsAt_14 rfl ?_ ?_
  · refine g_iconst (pc := 21) dX12_returnsAt_21 ci_1 ?_
    exact hk22 (1 : Int32) h1
  · refine g_iconst (pc := 17) dX12_returnsAt_17 ci_0 ?_
    refine g_goto (pc := 18) (tgt := 22) dX12_returnsAt_18 rfl ?_
    exact hk22 (0 : Int32) h1
theorem p_X12_returnsAt {l : Launch} {E : aE} (hl : l.stackTraces = false) (x1 : Nat) (x2 : Int32) (h0 : aH) : MO (fun (v : Int32) => .inl (some (.int v))) l E yX12_returnsAt (.code yX12_returnsAt cX12_returnsAt 2 (some .int)) 1 25 [.ref (e_z E + x1), .int x2] h0 (m_X12_returnsAt x1 x2 h0) := g_met hl (by decide +kernel) (Nat.le_of_ble_eq_true rfl) (b_X12_returnsAt hl _ _ x1 x2 h0)
theorem dX12_cost_0 : decode cX12_cost 0 = .ok (.aload_n 0, 1) := by decide +kernel
theorem dX12_cost_1 : decode cX12_cost 1 = .ok (.aload_n 0, 1) := by decide +kernel
theorem dX12_cost_2 : decode cX12_cost 2 = .ok (.iload_n 1, 1) := by decide +kernel
theorem dX12_cost_3 : decode cX12_cost 3 = .ok (.invokevirtual 467, 3) := by decide +kernel
theorem dX12_cost_6 : decode cX12_cost 6 = .ok (.ifCond .eq 7, 3) := by decide +kernel
theorem dX12_cost_9 : decode cX12_cost 9 = .ok (.iconst 0, 1) := by decide +kernel
theorem dX12_cost_10 : decode cX12_cost 10 = .ok (.goto 4, 3) := by decide +kernel
theorem dX12_cost_13 : decode cX12_cost 13 = .ok (.iconst 1, 1) := by decide +kernel
theorem dX12_cost_14 : decode cX12_cost 14 = .ok (.putfield 166, 3) := by decide +kernel
theorem dX12_cost_17 : decode cX12_cost 17 = .ok (.aload_n 0, 1) := by decide +kernel
theorem dX12_cost_18 : decode cX12_cost 18 = .ok (.getfield 166, 3) := by decide +kernel
theorem dX12_cost_21 : decode cX12_cost 21 = .ok (.ifCond .le 7, 3) := by decide +kernel
theorem dX12_cost_24 : decode cX12_cost 24 = .ok (.iconst 0, 1) := by decide +kernel
theorem dX12_cost_25 : decode cX12_cost 25 = .ok (.goto 9, 3) := by decide +kernel
theorem dX12_cost_28 : decode cX12_cost 28 = .ok (.aload_n 0, 1) := by decide +kernel
theorem dX12_cost_29 : decode cX12_cost 29 = .ok (.iload_n 1, 1) := by decide +kernel
theorem dX12_cost_30 : decode cX12_cost 30 = .ok (.iconst 0, 1) := by decide +kernel
theorem dX12_cost_31 : decode cX12_cost 31 = .ok (.invokevirtual 470, 3) := by decide +kernel
theorem dX12_cost_34 : decode cX12_cost 34 = .ok (.ireturn, 1) := by decide +kernel
abbrev M_X12_cost : aM := (yX12_cost.cls, cX12_cost, 2, (some .int), [], yX12_cost.name == "<init>")
abbrev J_X12_cost (l : Launch) (E : aE) (n0 m0 : Nat) := GG (fun (v : Int32) => .inl (some (.int v))) l E M_X12_cost 2 46 n0 m0
theorem b_X12_cost {l : Launch} {E : aE} (hl : l.stackTraces = false) (n0 m0 : Nat) (x1 : Nat) (x2 : Int32) (h0 : aH) : J_X12_cost l E n0 m0 0 [(0, .ref (e_z E + x1)), (1, .int x2)] [] h0 (m_X12_cost x1 x2 h0) := by
  unfold m_X12_cost
  refine g_aload_n (pc := 0) dX12_cost_0 0 rfl ?_
  refine g_aload_n (pc := 1) dX12_cost_1 0 rfl ?_
  refine g_iload_n (pc := 2) dX12_cost_2 1 rfl ?_
  refine g_gS (fun hs => ?_)
  refine g_bRi (pc := 3) (c_V cl12 hs (p_X12_isCall hl x1 x2 h0) y_X12_isCall tw2172 dX12_cost_3 rfl (st := [.ref (e_z E + x1)]) rfl (Nat.le_of_ble_eq_true rfl) (Nat.le_of_ble_eq_true rfl) (Nat.le_of_ble_eq_true rfl)) (fun x3 h1 => ?_)
  refine g_join (fun k => ∀ (x4 : Int32) (h2 : aH), J_X12_cost l E n0 m0 14 [(0, .ref (e_z E + x1)), (1, .int x2)] [.int x4, .ref (e_z E + x1)] h2 (k x4 h2)) (fun x4 h2 => ?_) (fun k14 hk14 => ?_)
  · refine g_puti (pc := 14) cl12 (Nat.le_of_ble_eq_true rfl) (Or.inl ⟨rfl, fk1551⟩) (fun _ _ _ => rfl) (fun _ => ⟨rfl, rfl⟩) dX12_cost_14 (fun h3 => ?_)
    refine g_aload_n (pc := 17) dX12_cost_17 0 rfl ?_
    refine g_geti (pc := 18) cl12 (Nat.le_of_ble_eq_true rfl) fk1551 (fun _ _ _ => rfl) dX12_cost_18 (fun x5 => ?_)
    refine g_join (fun k => ∀ (x6 : Int32) (h4 : aH), J_X12_cost l E n0 m0 34 [] [.int x6] h4 (k x6 h4)) (fun x6 h4 => ?_) (fun k34 hk34 => ?_)
    · exact g_ret (pc := 34) rfl (isRet_i _) dX12_cost_34 rfl
    refine g_ifle (pc := 21) (tgt := 28) dX12_cost_21 rfl ?_ ?_
    · refine g_aload_n (pc := 28) dX12_cost_28 0 rfl ?_
      refine g_iload_n (pc := 29) dX12_cost_29 1 rfl ?_
      refine g_iconst (pc := 30) dX12_cost_30 ci_0 ?_
      refine g_gS (fun hs => ?_)
      refine g_bRi (pc := 31) (c_V cl12 hs (p_X12_callAt hl x1 x2 (0 : Int32) h3) y_X12_callAt tw2176 dX12_cost_31 rfl (st := []) rfl (Nat.le_of_ble_eq_true rfl) (Nat.le_of_ble_eq_true rfl) (Nat.le_of_ble_eq_true rfl)) (fun x7 h5 => ?_)
      refine g_lv [] rfl ?_
      exact hk34 x7 h5
    · refine g_iconst (pc := 24) dX12_cost_24 ci_0 ?_
      refine g_goto (pc := 25) (tgt := 34) dX12_cost_25 rfl ?_
      refine g_lv [] rfl ?_
      exact hk34 (0 : Int32) h3
  refine g_ifeq (pc := 6) (tgt := 13) dX12_cost_6 rfl ?_ ?_
  · refine g_iconst (pc := 13) dX12_cost_13 ci_1 ?_
    exact hk14 (1 : Int32) h1
  · refine g_iconst (pc := 9) dX12_cost_9 ci_0 ?_
    refine g_goto (pc := 10) (tgt := 14) dX12_cost_10 rfl ?_
    exact hk14 (0 : Int32) h1
theorem p_X12_cost {l : Launch} {E : aE} (hl : l.stackTraces = false) (x1 : Nat) (x2 : Int32) (h0 : aH) : MO (fun (v : Int32) => .inl (some (.int v))) l E yX12_cost (.code yX12_cost cX12_cost 2 (some .int)) 2 46 [.ref (e_z E + x1), .int x2] h0 (m_X12_cost x1 x2 h0) := g_met hl (by decide +kernel) (Nat.le_of_ble_eq_true rfl) (b_X12_cost hl _ _ x1 x2 h0)
theorem dX12_isAnswered_0 : decode cX12_isAnswered 0 = .ok (.aload_n 0, 1) := by decide +kernel
theorem dX12_isAnswered_1 : decode cX12_isAnswered 1 = .ok (.aload_n 0, 1) := by decide +kernel
theorem dX12_isAnswered_2 : decode cX12_isAnswered 2 = .ok (.iload_n 1, 1) := by decide +kernel
theorem dX12_isAnswered_3 : decode cX12_isAnswered 3 = .ok (.invokevirtual 467, 3) := by decide +kernel
theorem dX12_isAnswered_6 : decode cX12_isAnswered 6 = .ok (.ifCond .eq 7, 3) := by decide +kernel
theorem dX12_isAnswered_9 : decode cX12_isAnswered 9 = .ok (.iconst 0, 1) := by decide +kernel
theorem dX12_isAnswered_10 : decode cX12_isAnswered 10 = .ok (.goto 4, 3) := by decide +kernel
theorem dX12_isAnswered_13 : decode cX12_isAnswered 13 = .ok (.iconst 1, 1) := by decide +kernel
theorem dX12_isAnswered_14 : decode cX12_isAnswered 14 = .ok (.putfield 166, 3) := by decide +kernel
theorem dX12_isAnswered_17 : decode cX12_isAnswered 17 = .ok (.aload_n 0, 1) := by decide +kernel
theorem dX12_isAnswered_18 : decode cX12_isAnswered 18 = .ok (.getfield 166, 3) := by decide +kernel
theorem dX12_isAnswered_21 : decode cX12_isAnswered 21 = .ok (.ifCond .ne 16, 3) := by decide +kernel
theorem dX12_isAnswered_24 : decode cX12_isAnswered 24 = .ok (.aload_n 0, 1) := by decide +kernel
theorem dX12_isAnswered_25 : decode cX12_isAnswered 25 = .ok (.iload_n 1, 1) := by decide +kernel
theorem dX12_isAnswered_26 : decode cX12_isAnswered 26 = .ok (.iconst 1, 1) := by decide +kernel
theorem dX12_isAnswered_27 : decode cX12_isAnswered 27 = .ok (.invokevirtual 470, 3) := by decide +kernel
theorem dX12_isAnswered_30 : decode cX12_isAnswered 30 = .ok (.ifCond .eq 7, 3) := by decide +kernel
theorem dX12_isAnswered_33 : decode cX12_isAnswered 33 = .ok (.iconst 1, 1) := by decide +kernel
theorem dX12_isAnswered_34 : decode cX12_isAnswered 34 = .ok (.goto 4, 3) := by decide +kernel
theorem dX12_isAnswered_37 : decode cX12_isAnswered 37 = .ok (.iconst 0, 1) := by decide +kernel
theorem dX12_isAnswered_38 : decode cX12_isAnswered 38 = .ok (.ireturn, 1) := by decide +kernel
abbrev M_X12_isAnswered : aM := (yX12_isAnswered.cls, cX12_isAnswered, 2, (some .boolean), [], yX12_isAnswered.name == "<init>")
abbrev J_X12_isAnswered (l : Launch) (E : aE) (n0 m0 : Nat) := GG (fun (v : Int32) => .inl (some (.int v))) l E M_X12_isAnswered 2 46 n0 m0
theorem b_X12_isAnswered {l : Launch} {E : aE} (hl : l.stackTraces = false) (n0 m0 : Nat) (x1 : Nat) (x2 : Int32) (h0 : aH) : J_X12_isAnswered l E n0 m0 0 [(0, .ref (e_z E + x1)), (1, .int x2)] [] h0 (m_X12_isAnswered x1 x2 h0) := by
  unfold m_X12_isAnswered
  refine g_aload_n (pc := 0) dX12_isAnswered_0 0 rfl ?_
  refine g_aload_n (pc := 1) dX12_isAnswered_1 0 rfl ?_
  refine g_iload_n (pc := 2) dX12_isAnswered_2 1 rfl ?_
  refine g_gS (fun hs => ?_)
  refine g_bRi (pc := 3) (c_V cl12 hs (p_X12_isCall hl x1 x2 h0) y_X12_isCall tw2172 dX12_isAnswered_3 rfl (st := [.ref (e_z E + x1)]) rfl (Nat.le_of_ble_eq_true rfl) (Nat.le_of_ble_eq_true rfl) (Nat.le_of_ble_eq_true rfl)) (fun x3 h1 => ?_)
  refine g_join (fun k => ∀ (x4 : Int32) (h2 : aH), J_X12_isAnswered l E n0 m0 14 [(0, .ref (e_z E + x1)), (1, .int x2)] [.int x4, .ref (e_z E + x1)] h2 (k x4 h2)) (fun x4 h2 => ?_) (fun k14 hk14 => ?_)
  · refine g_puti (pc := 14) cl12 (Nat.le_of_ble_eq_true rfl) (Or.inl ⟨rfl, fk1551⟩) (fun _ _ _ => rfl) (fun _ => ⟨rfl, rfl⟩) dX12_isAnswered_14 (fun h3 => ?_)
    refine g_aload_n (pc := 17) dX12_isAnswered_17 0 rfl ?_
    refine g_geti (pc := 18) cl12 (Nat.le_of_ble_eq_true rfl) fk1551 (fun _ _ _ => rfl) dX12_isAnswered_18 (fun x5 => ?_)
    refine g_join (fun k => ∀ (x6 : Int32) (h4 : aH), J_X12_isAnswered l E n0 m0 38 [] [.int x6] h4 (k x6 h4)) (fun x6 h4 => ?_) (fun k38 hk38 => ?_)
    · refine g_zO (fun hz => ?_)
      exact g_ret (pc := 38) rfl (isRet_z hz) dX12_isAnswered_38 rfl
    refine g_join (fun k => ∀ (h5 : aH), J_X12_isAnswered l E n0 m0 37 [] [] h5 (k h5)) (fun h5 => ?_) (fun k37 hk37 => ?_)
    · refine g_iconst (pc := 37) dX12_isAnswered_37 ci_0 ?_
      exact hk38 (0 : Int32) h5
    refine g_ifne (pc := 21) (tgt := 37) dX12_isAnswered_21 rfl ?_ ?_
    · refine g_aload_n (pc := 24) dX12_isAnswered_24 0 rfl ?_
      refine g_iload_n (pc := 25) dX12_isAnswered_25 1 rfl ?_
      refine g_iconst (pc := 26) dX12_isAnswered_26 ci_1 ?_
      refine g_gS (fun hs => ?_)
      refine g_bRi (pc := 27) (c_V cl12 hs (p_X12_callAt hl x1 x2 (1 : Int32) h3) y_X12_callAt tw2176 dX12_isAnswered_27 rfl (st := []) rfl (Nat.le_of_ble_eq_true rfl) (Nat.le_of_ble_eq_true rfl) (Nat.le_of_ble_eq_true rfl)) (fun x8 h6 => ?_)
      refine g_ifeq (pc := 30) (tgt := 37) dX12_isAnswered_30 rfl ?_ ?_
      · refine g_lv [] rfl ?_
        exact hk37 h6
      · refine g_iconst (pc := 33) dX12_isAnswered_33 ci_1 ?_
        refine g_goto (pc := 34) (tgt := 38) dX12_isAnswered_34 rfl ?_
        refine g_lv [] rfl ?_
        exact hk38 (1 : Int32) h6
    · refine g_lv [] rfl ?_
      exact hk37 h3
  refine g_ifeq (pc := 6) (tgt := 13) dX12_isAnswered_6 rfl ?_ ?_
  · refine g_iconst (pc := 13) dX12_isAnswered_13 ci_1 ?_
    exact hk14 (1 : Int32) h1
  · refine g_iconst (pc := 9) dX12_isAnswered_9 ci_0 ?_
    refine g_goto (pc := 10) (tgt := 14) dX12_isAnswered_10 rfl ?_
    exact hk14 (0 : Int32) h1
theorem p_X12_isAnswered {l : Launch} {E : aE} (hl : l.stackTraces = false) (x1 : Nat) (x2 : Int32) (h0 : aH) : MO (fun (v : Int32) => .inl (some (.int v))) l E yX12_isAnswered (.code yX12_isAnswered cX12_isAnswered 2 (some .boolean)) 2 46 [.ref (e_z E + x1), .int x2] h0 (m_X12_isAnswered x1 x2 h0) := g_met hl (by decide +kernel) (Nat.le_of_ble_eq_true rfl) (b_X12_isAnswered hl _ _ x1 x2 h0)
theorem dX12_came_0 : decode cX12_came 0 = .ok (.aload_n 0, 1) := by decide +kernel
theorem dX12_came_1 : decode cX12_came 1 = .ok (.aload_n 0, 1) := by decide +kernel
theorem dX12_came_2 : decode cX12_came 2 = .ok (.iload_n 1, 1) := by decide +kernel
theorem dX12_came_3 : decode cX12_came 3 = .ok (.invokevirtual 467, 3) := by decide +kernel
theorem dX12_came_6 : decode cX12_came 6 = .ok (.ifCond .eq 7, 3) := by decide +kernel
theorem dX12_came_9 : decode cX12_came 9 = .ok (.iconst 0, 1) := by decide +kernel
theorem dX12_came_10 : decode cX12_came 10 = .ok (.goto 4, 3) := by decide +kernel
theorem dX12_came_13 : decode cX12_came 13 = .ok (.iconst 1, 1) := by decide +kernel
theorem dX12_came_14 : decode cX12_came 14 = .ok (.putfield 166, 3) := by decide +kernel
theorem dX12_came_17 : decode cX12_came 17 = .ok (.aload_n 0, 1) := by decide +kernel
theorem dX12_came_18 : decode cX12_came 18 = .ok (.getfield 166, 3) := by decide +kernel
theorem dX12_came_21 : decode cX12_came 21 = .ok (.ifCond .le 7, 3) := by decide +kernel
theorem dX12_came_24 : decode cX12_came 24 = .ok (.iconst 0, 1) := by decide +kernel
theorem dX12_came_25 : decode cX12_came 25 = .ok (.goto 9, 3) := by decide +kernel
theorem dX12_came_28 : decode cX12_came 28 = .ok (.aload_n 0, 1) := by decide +kernel
theorem dX12_came_29 : decode cX12_came 29 = .ok (.iload_n 1, 1) := by decide +kernel
theorem dX12_came_30 : decode cX12_came 30 = .ok (.iconst 2, 1) := by decide +kernel
theorem dX12_came_31 : decode cX12_came 31 = .ok (.invokevirtual 470, 3) := by decide +kernel
theorem dX12_came_34 : decode cX12_came 34 = .ok (.ireturn, 1) := by decide +kernel
abbrev M_X12_came : aM := (yX12_came.cls, cX12_came, 2, (some .int), [], yX12_came.name == "<init>")
abbrev J_X12_came (l : Launch) (E : aE) (n0 m0 : Nat) := GG (fun (v : Int32) => .inl (some (.int v))) l E M_X12_came 2 46 n0 m0
theorem b_X12_came {l : Launch} {E : aE} (hl : l.stackTraces = false) (n0 m0 : Nat) (x1 : Nat) (x2 : Int32) (h0 : aH) : J_X12_came l E n0 m0 0 [(0, .ref (e_z E + x1)), (1, .int x2)] [] h0 (m_X12_came x1 x2 h0) := by
  unfold m_X12_came
  refine g_aload_n (pc := 0) dX12_came_0 0 rfl ?_
  refine g_aload_n (pc := 1) dX12_came_1 0 rfl ?_
  refine g_iload_n (pc := 2) dX12_came_2 1 rfl ?_
  refine g_gS (fun hs => ?_)
  refine g_bRi (pc := 3) (c_V cl12 hs (p_X12_isCall hl x1 x2 h0) y_X12_isCall tw2172 dX12_came_3 rfl (st := [.ref (e_z E + x1)]) rfl (Nat.le_of_ble_eq_true rfl) (Nat.le_of_ble_eq_true rfl) (Nat.le_of_ble_eq_true rfl)) (fun x3 h1 => ?_)
  refine g_join (fun k => ∀ (x4 : Int32) (h2 : aH), J_X12_came l E n0 m0 14 [(0, .ref (e_z E + x1)), (1, .int x2)] [.int x4, .ref (e_z E + x1)] h2 (k x4 h2)) (fun x4 h2 => ?_) (fun k14 hk14 => ?_)
  · refine g_puti (pc := 14) cl12 (Nat.le_of_ble_eq_true rfl) (Or.inl ⟨rfl, fk1551⟩) (fun _ _ _ => rfl) (fun _ => ⟨rfl, rfl⟩) dX12_came_14 (fun h3 => ?_)
    refine g_aload_n (pc := 17) dX12_came_17 0 rfl ?_
    refine g_geti (pc := 18) cl12 (Nat.le_of_ble_eq_true rfl) fk1551 (fun _ _ _ => rfl) dX12_came_18 (fun x5 => ?_)
    refine g_join (fun k => ∀ (x6 : Int32) (h4 : aH), J_X12_came l E n0 m0 34 [] [.int x6] h4 (k x6 h4)) (fun x6 h4 => ?_) (fun k34 hk34 => ?_)
    · exact g_ret (pc := 34) rfl (isRet_i _) dX12_came_34 rfl
    refine g_ifle (pc := 21) (tgt := 28) dX12_came_21 rfl ?_ ?_
    · refine g_aload_n (pc := 28) dX12_came_28 0 rfl ?_
      refine g_iload_n (pc := 29) dX12_came_29 1 rfl ?_
      refine g_iconst (pc := 30) dX12_came_30 ci_2 ?_
      refine g_gS (fun hs => ?_)
      refine g_bRi (pc := 31) (c_V cl12 hs (p_X12_callAt hl x1 x2 (2 : Int32) h3) y_X12_callAt tw2176 dX12_came_31 rfl (st := []) rfl (Nat.le_of_ble_eq_true rfl) (Nat.le_of_ble_eq_true rfl) (Nat.le_of_ble_eq_true rfl)) (fun x7 h5 => ?_)
      refine g_lv [] rfl ?_
      exact hk34 x7 h5
    · refine g_iconst (pc := 24) dX12_came_24 ci_0 ?_
      refine g_goto (pc := 25) (tgt := 34) dX12_came_25 rfl ?_
      refine g_lv [] rfl ?_
      exact hk34 (0 : Int32) h3
  refine g_ifeq (pc := 6) (tgt := 13) dX12_came_6 rfl ?_ ?_
  · refine g_iconst (pc := 13) dX12_came_13 ci_1 ?_
    exact hk14 (1 : Int32) h1
  · refine g_iconst (pc := 9) dX12_came_9 ci_0 ?_
    refine g_goto (pc := 10) (tgt := 14) dX12_came_10 rfl ?_
    exact hk14 (0 : Int32) h1
theorem p_X12_came {l : Launch} {E : aE} (hl : l.stackTraces = false) (x1 : Nat) (x2 : Int32) (h0 : aH) : MO (fun (v : Int32) => .inl (some (.int v))) l E yX12_came (.code yX12_came cX12_came 2 (some .int)) 2 46 [.ref (e_z E + x1), .int x2] h0 (m_X12_came x1 x2 h0) := g_met hl (by decide +kernel) (Nat.le_of_ble_eq_true rfl) (b_X12_came hl _ _ x1 x2 h0)
theorem dX12_left_0 : decode cX12_left 0 = .ok (.aload_n 0, 1) := by decide +kernel
theorem dX12_left_1 : decode cX12_left 1 = .ok (.aload_n 0, 1) := by decide +kernel
theorem dX12_left_2 : decode cX12_left 2 = .ok (.iload_n 1, 1) := by decide +kernel
theorem dX12_left_3 : decode cX12_left 3 = .ok (.invokevirtual 467, 3) := by decide +kernel
theorem dX12_left_6 : decode cX12_left 6 = .ok (.ifCond .eq 7, 3) := by decide +kernel
theorem dX12_left_9 : decode cX12_left 9 = .ok (.iconst 0, 1) := by decide +kernel
theorem dX12_left_10 : decode cX12_left 10 = .ok (.goto 4, 3) := by decide +kernel
theorem dX12_left_13 : decode cX12_left 13 = .ok (.iconst 1, 1) := by decide +kernel
theorem dX12_left_14 : decode cX12_left 14 = .ok (.putfield 166, 3) := by decide +kernel
theorem dX12_left_17 : decode cX12_left 17 = .ok (.aload_n 0, 1) := by decide +kernel
theorem dX12_left_18 : decode cX12_left 18 = .ok (.getfield 166, 3) := by decide +kernel
theorem dX12_left_21 : decode cX12_left 21 = .ok (.ifCond .le 7, 3) := by decide +kernel
theorem dX12_left_24 : decode cX12_left 24 = .ok (.iconst 0, 1) := by decide +kernel
theorem dX12_left_25 : decode cX12_left 25 = .ok (.goto 9, 3) := by decide +kernel
theorem dX12_left_28 : decode cX12_left 28 = .ok (.aload_n 0, 1) := by decide +kernel
theorem dX12_left_29 : decode cX12_left 29 = .ok (.iload_n 1, 1) := by decide +kernel
theorem dX12_left_30 : decode cX12_left 30 = .ok (.iconst 3, 1) := by decide +kernel
theorem dX12_left_31 : decode cX12_left 31 = .ok (.invokevirtual 470, 3) := by decide +kernel
theorem dX12_left_34 : decode cX12_left 34 = .ok (.ireturn, 1) := by decide +kernel
abbrev M_X12_left : aM := (yX12_left.cls, cX12_left, 2, (some .int), [], yX12_left.name == "<init>")
abbrev J_X12_left (l : Launch) (E : aE) (n0 m0 : Nat) := GG (fun (v : Int32) => .inl (some (.int v))) l E M_X12_left 2 46 n0 m0
theorem b_X12_left {l : Launch} {E : aE} (hl : l.stackTraces = false) (n0 m0 : Nat) (x1 : Nat) (x2 : Int32) (h0 : aH) : J_X12_left l E n0 m0 0 [(0, .ref (e_z E + x1)), (1, .int x2)] [] h0 (m_X12_left x1 x2 h0) := by
  unfold m_X12_left
  refine g_aload_n (pc := 0) dX12_left_0 0 rfl ?_
  refine g_aload_n (pc := 1) dX12_left_1 0 rfl ?_
  refine g_iload_n (pc := 2) dX12_left_2 1 rfl ?_
  refine g_gS (fun hs => ?_)
  refine g_bRi (pc := 3) (c_V cl12 hs (p_X12_isCall hl x1 x2 h0) y_X12_isCall tw2172 dX12_left_3 rfl (st := [.ref (e_z E + x1)]) rfl (Nat.le_of_ble_eq_true rfl) (Nat.le_of_ble_eq_true rfl) (Nat.le_of_ble_eq_true rfl)) (fun x3 h1 => ?_)
  refine g_join (fun k => ∀ (x4 : Int32) (h2 : aH), J_X12_left l E n0 m0 14 [(0, .ref (e_z E + x1)), (1, .int x2)] [.int x4, .ref (e_z E + x1)] h2 (k x4 h2)) (fun x4 h2 => ?_) (fun k14 hk14 => ?_)
  · refine g_puti (pc := 14) cl12 (Nat.le_of_ble_eq_true rfl) (Or.inl ⟨rfl, fk1551⟩) (fun _ _ _ => rfl) (fun _ => ⟨rfl, rfl⟩) dX12_left_14 (fun h3 => ?_)
    refine g_aload_n (pc := 17) dX12_left_17 0 rfl ?_
    refine g_geti (pc := 18) cl12 (Nat.le_of_ble_eq_true rfl) fk1551 (fun _ _ _ => rfl) dX12_left_18 (fun x5 => ?_)
    refine g_join (fun k => ∀ (x6 : Int32) (h4 : aH), J_X12_left l E n0 m0 34 [] [.int x6] h4 (k x6 h4)) (fun x6 h4 => ?_) (fun k34 hk34 => ?_)
    · exact g_ret (pc := 34) rfl (isRet_i _) dX12_left_34 rfl
    refine g_ifle (pc := 21) (tgt := 28) dX12_left_21 rfl ?_ ?_
    · refine g_aload_n (pc := 28) dX12_left_28 0 rfl ?_
      refine g_iload_n (pc := 29) dX12_left_29 1 rfl ?_
      refine g_iconst (pc := 30) dX12_left_30 ci_3 ?_
      refine g_gS (fun hs => ?_)
      refine g_bRi (pc := 31) (c_V cl12 hs (p_X12_callAt hl x1 x2 (3 : Int32) h3) y_X12_callAt tw2176 dX12_left_31 rfl (st := []) rfl (Nat.le_of_ble_eq_true rfl) (Nat.le_of_ble_eq_true rfl) (Nat.le_of_ble_eq_true rfl)) (fun x7 h5 => ?_)
      refine g_lv [] rfl ?_
      exact hk34 x7 h5
    · refine g_iconst (pc := 24) dX12_left_24 ci_0 ?_
      refine g_goto (pc := 25) (tgt := 34) dX12_left_25 rfl ?_
      refine g_lv [] rfl ?_
      exact hk34 (0 : Int32) h3
  refine g_ifeq (pc := 6) (tgt := 13) dX12_left_6 rfl ?_ ?_
  · refine g_iconst (pc := 13) dX12_left_13 ci_1 ?_
    exact hk14 (1 : Int32) h1
  · refine g_iconst (pc := 9) dX12_left_9 ci_0 ?_
    refine g_goto (pc := 10) (tgt := 14) dX12_left_10 rfl ?_
    exact hk14 (0 : Int32) h1
theorem p_X12_left {l : Launch} {E : aE} (hl : l.stackTraces = false) (x1 : Nat) (x2 : Int32) (h0 : aH) : MO (fun (v : Int32) => .inl (some (.int v))) l E yX12_left (.code yX12_left cX12_left 2 (some .int)) 2 46 [.ref (e_z E + x1), .int x2] h0 (m_X12_left x1 x2 h0) := g_met hl (by decide +kernel) (Nat.le_of_ble_eq_true rfl) (b_X12_left hl _ _ x1 x2 h0)
theorem dX12_leavingAt_0 : decode cX12_leavingAt 0 = .ok (.aload_n 0, 1) := by decide +kernel
theorem dX12_leavingAt_1 : decode cX12_leavingAt 1 = .ok (.aload_n 0, 1) := by decide +kernel
theorem dX12_leavingAt_2 : decode cX12_leavingAt 2 = .ok (.iload_n 1, 1) := by decide +kernel
theorem dX12_leavingAt_3 : decode cX12_leavingAt 3 = .ok (.invokevirtual 467, 3) := by decide +kernel
theorem dX12_leavingAt_6 : decode cX12_leavingAt 6 = .ok (.ifCond .eq 25, 3) := by decide +kernel
theorem dX12_leavingAt_9 : decode cX12_leavingAt 9 = .ok (.iload_n 2, 1) := by decide +kernel
theorem dX12_leavingAt_10 : decode cX12_leavingAt 10 = .ok (.i2l, 1) := by decide +kernel
theorem dX12_leavingAt_11 : decode cX12_leavingAt 11 = .ok (.lconst 0, 1) := by decide +kernel
theorem dX12_leavingAt_12 : decode cX12_leavingAt 12 = .ok (.aload_n 0, 1) := by decide +kernel
theorem dX12_leavingAt_13 : decode cX12_leavingAt 13 = .ok (.iload_n 1, 1) := by decide +kernel
theorem dX12_leavingAt_14 : decode cX12_leavingAt 14 = .ok (.iconst 3, 1) := by decide +kernel
theorem dX12_leavingAt_15 : decode cX12_leavingAt 15 = .ok (.invokevirtual 470, 3) := by decide +kernel
theorem dX12_leavingAt_18 : decode cX12_leavingAt 18 = .ok (.iconst 1, 1) := by decide +kernel
theorem dX12_leavingAt_19 : decode cX12_leavingAt 19 = .ok (.isub, 1) := by decide +kernel
theorem dX12_leavingAt_20 : decode cX12_leavingAt 20 = .ok (.i2l, 1) := by decide +kernel
theorem dX12_leavingAt_21 : decode cX12_leavingAt 21 = .ok (.invokestatic 176, 3) := by decide +kernel
theorem dX12_leavingAt_24 : decode cX12_leavingAt 24 = .ok (.ifCond .eq 7, 3) := by decide +kernel
theorem dX12_leavingAt_27 : decode cX12_leavingAt 27 = .ok (.iconst 0, 1) := by decide +kernel
theorem dX12_leavingAt_28 : decode cX12_leavingAt 28 = .ok (.goto 4, 3) := by decide +kernel
theorem dX12_leavingAt_31 : decode cX12_leavingAt 31 = .ok (.iconst 1, 1) := by decide +kernel
theorem dX12_leavingAt_32 : decode cX12_leavingAt 32 = .ok (.putfield 166, 3) := by decide +kernel
theorem dX12_leavingAt_35 : decode cX12_leavingAt 35 = .ok (.aload_n 0, 1) := by decide +kernel
theorem dX12_leavingAt_36 : decode cX12_leavingAt 36 = .ok (.getfield 166, 3) := by decide +kernel
theorem dX12_leavingAt_39 : decode cX12_leavingAt 39 = .ok (.ifCond .le 7, 3) := by decide +kernel
theorem dX12_leavingAt_42 : decode cX12_leavingAt 42 = .ok (.iconst 0, 1) := by decide +kernel
theorem dX12_leavingAt_43 : decode cX12_leavingAt 43 = .ok (.goto 15, 3) := by decide +kernel
theorem dX12_leavingAt_46 : decode cX12_leavingAt 46 = .ok (.aload_n 0, 1) := by decide +kernel
theorem dX12_leavingAt_47 : decode cX12_leavingAt 47 = .ok (.iload_n 1, 1) := by decide +kernel
theorem dX12_leavingAt_48 : decode cX12_leavingAt 48 = .ok (.iconst 4, 1) := by decide +kernel
theorem dX12_leavingAt_49 : decode cX12_leavingAt 49 = .ok (.iconst 3, 1) := by decide +kernel
theorem dX12_leavingAt_50 : decode cX12_leavingAt 50 = .ok (.iload_n 2, 1) := by decide +kernel
theorem dX12_leavingAt_51 : decode cX12_leavingAt 51 = .ok (.imul, 1) := by decide +kernel
theorem dX12_leavingAt_52 : decode cX12_leavingAt 52 = .ok (.iadd, 1) := by decide +kernel
theorem dX12_leavingAt_53 : decode cX12_leavingAt 53 = .ok (.iload_n 3, 1) := by decide +kernel
theorem dX12_leavingAt_54 : decode cX12_leavingAt 54 = .ok (.iadd, 1) := by decide +kernel
theorem dX12_leavingAt_55 : decode cX12_leavingAt 55 = .ok (.invokevirtual 470, 3) := by decide +kernel
theorem dX12_leavingAt_58 : decode cX12_leavingAt 58 = .ok (.ireturn, 1) := by decide +kernel
abbrev M_X12_leavingAt : aM := (yX12_leavingAt.cls, cX12_leavingAt, 4, (some .int), [], yX12_leavingAt.name == "<init>")
abbrev J_X12_leavingAt (l : Launch) (E : aE) (n0 m0 : Nat) := GG (fun (v : Int32) => .inl (some (.int v))) l E M_X12_leavingAt 2 46 n0 m0
theorem b_X12_leavingAt {l : Launch} {E : aE} (hl : l.stackTraces = false) (n0 m0 : Nat) (x1 : Nat) (x2 : Int32) (x3 : Int32) (x4 : Int32) (h0 : aH) : J_X12_leavingAt l E n0 m0 0 [(0, .ref (e_z E + x1)), (1, .int x2), (2, .int x3), (3, .int x4)] [] h0 (m_X12_leavingAt x1 x2 x3 x4 h0) := by
  unfold m_X12_leavingAt
  refine g_aload_n (pc := 0) dX12_leavingAt_0 0 rfl ?_
  refine g_aload_n (pc := 1) dX12_leavingAt_1 0 rfl ?_
  refine g_iload_n (pc := 2) dX12_leavingAt_2 1 rfl ?_
  refine g_gS (fun hs => ?_)
  refine g_bRi (pc := 3) (c_V cl12 hs (p_X12_isCall hl x1 x2 h0) y_X12_isCall tw2172 dX12_leavingAt_3 rfl (st := [.ref (e_z E + x1)]) rfl (Nat.le_of_ble_eq_true rfl) (Nat.le_of_ble_eq_true rfl) (Nat.le_of_ble_eq_true rfl)) (fun x5 h1 => ?_)
  refine g_join (fun k => ∀ (x6 : Int32) (h2 : aH), J_X12_leavingAt l E n0 m0 32 [(0, .ref (e_z E + x1)), (1, .int x2), (2, .int x3), (3, .int x4)] [.int x6, .ref (e_z E + x1)] h2 (k x6 h2)) (fun x6 h2 => ?_) (fun k32 hk32 => ?_)
  · refine g_puti (pc := 32) cl12 (Nat.le_of_ble_eq_true rfl) (Or.inl ⟨rfl, fk1551⟩) (fun _ _ _ => rfl) (fun _ => ⟨rfl, rfl⟩) dX12_leavingAt_32 (fun h3 => ?_)
    refine g_aload_n (pc := 35) dX12_leavingAt_35 0 rfl ?_
    refine g_geti (pc := 36) cl12 (Nat.le_of_ble_eq_true rfl) fk1551 (fun _ _ _ => rfl) dX12_leavingAt_36 (fun x7 => ?_)
    refine g_join (fun k => ∀ (x8 : Int32) (h4 : aH), J_X12_leavingAt l E n0 m0 58 [] [.int x8] h4 (k x8 h4)) (fun x8 h4 => ?_) (fun k58 hk58 => ?_)
    · exact g_ret (pc := 58) rfl (isRet_i _) dX12_leavingAt_58 rfl
    refine g_ifle (pc := 39) (tgt := 46) dX12_leavingAt_39 rfl ?_ ?_
    · refine g_aload_n (pc := 46) dX12_leavingAt_46 0 rfl ?_
      refine g_iload_n (pc := 47) dX12_leavingAt_47 1 rfl ?_
      refine g_iconst (pc := 48) dX12_leavingAt_48 ci_4 ?_
      refine g_iconst (pc := 49) dX12_leavingAt_49 ci_3 ?_
      refine g_iload_n (pc := 50) dX12_leavingAt_50 2 rfl ?_
      refine g_imul (pc := 51) dX12_leavingAt_51 ?_
      refine g_iadd (pc := 52) dX12_leavingAt_52 ?_
      refine g_iload_n (pc := 53) dX12_leavingAt_53 3 rfl ?_
      refine g_iadd (pc := 54) dX12_leavingAt_54 ?_
      refine g_gS (fun hs => ?_)
      refine g_bRi (pc := 55) (c_V cl12 hs (p_X12_callAt hl x1 x2 (((4 : Int32) + ((3 : Int32) * x3)) + x4) h3) y_X12_callAt tw2176 dX12_leavingAt_55 rfl (st := []) rfl (Nat.le_of_ble_eq_true rfl) (Nat.le_of_ble_eq_true rfl) (Nat.le_of_ble_eq_true rfl)) (fun x9 h5 => ?_)
      refine g_lv [] rfl ?_
      exact hk58 x9 h5
    · refine g_iconst (pc := 42) dX12_leavingAt_42 ci_0 ?_
      refine g_goto (pc := 43) (tgt := 58) dX12_leavingAt_43 rfl ?_
      refine g_lv [] rfl ?_
      exact hk58 (0 : Int32) h3
  refine g_join (fun k => ∀ (h6 : aH), J_X12_leavingAt l E n0 m0 31 [(0, .ref (e_z E + x1)), (1, .int x2), (2, .int x3), (3, .int x4)] [.ref (e_z E + x1)] h6 (k h6)) (fun h6 => ?_) (fun k31 hk31 => ?_)
  · refine g_iconst (pc := 31) dX12_leavingAt_31 ci_1 ?_
    exact hk32 (1 : Int32) h6
  refine g_ifeq (pc := 6) (tgt := 31) dX12_leavingAt_6 rfl ?_ ?_
  · exact hk31 h1
  · refine g_iload_n (pc := 9) dX12_leavingAt_9 2 rfl ?_
    refine g_i2l (pc := 10) dX12_leavingAt_10 ?_
    refine g_lconst (pc := 11) dX12_leavingAt_11 cl_0 ?_
    refine g_aload_n (pc := 12) dX12_leavingAt_12 0 rfl ?_
    refine g_iload_n (pc := 13) dX12_leavingAt_13 1 rfl ?_
    refine g_iconst (pc := 14) dX12_leavingAt_14 ci_3 ?_
    refine g_gS (fun hs => ?_)
    refine g_bRi (pc := 15) (c_V cl12 hs (p_X12_callAt hl x1 x2 (3 : Int32) h1) y_X12_callAt tw2176 dX12_leavingAt_15 rfl (st := [.long (0 : Int64), .long (x3.toInt64), .ref (e_z E + x1)]) rfl (Nat.le_of_ble_eq_true rfl) (Nat.le_of_ble_eq_true rfl) (Nat.le_of_ble_eq_true rfl)) (fun x10 h7 => ?_)
    refine g_iconst (pc := 18) dX12_leavingAt_18 ci_1 ?_
    refine g_isub (pc := 19) dX12_leavingAt_19 ?_
    refine g_i2l (pc := 20) dX12_leavingAt_20 ?_
    refine g_bRi (pc := 21) (c_S (p_X12_in hl (x3.toInt64) (0 : Int64) ((x10 - (1 : Int32)).toInt64) h7) y_X12_in tw1782 dX12_leavingAt_21 rfl (st := [.ref (e_z E + x1)]) rfl (Nat.le_of_ble_eq_true rfl) (Nat.le_of_ble_eq_true rfl) (Nat.le_of_ble_eq_true rfl)) (fun x11 h8 => ?_)
    refine g_ifeq (pc := 24) (tgt := 31) dX12_leavingAt_24 rfl ?_ ?_
    · exact hk31 h8
    · refine g_iconst (pc := 27) dX12_leavingAt_27 ci_0 ?_
      refine g_goto (pc := 28) (tgt := 32) dX12_leavingAt_28 rfl ?_
      exact hk32 (0 : Int32) h8
theorem p_X12_leavingAt {l : Launch} {E : aE} (hl : l.stackTraces = false) (x1 : Nat) (x2 : Int32) (x3 : Int32) (x4 : Int32) (h0 : aH) : MO (fun (v : Int32) => .inl (some (.int v))) l E yX12_leavingAt (.code yX12_leavingAt cX12_leavingAt 4 (some .int)) 2 46 [.ref (e_z E + x1), .int x2, .int x3, .int x4] h0 (m_X12_leavingAt x1 x2 x3 x4 h0) := g_met hl (by decide +kernel) (Nat.le_of_ble_eq_true rfl) (b_X12_leavingAt hl _ _ x1 x2 x3 x4 h0)
theorem dX12_engine__0 : decode cX12_engine_ 0 = .ok (.aload_n 0, 1) := by decide +kernel
theorem dX12_engine__1 : decode cX12_engine_ 1 = .ok (.iload_n 1, 1) := by decide +kernel
theorem dX12_engine__2 : decode cX12_engine_ 2 = .ok (.iload_n 2, 1) := by decide +kernel
theorem dX12_engine__3 : decode cX12_engine_ 3 = .ok (.iconst 0, 1) := by decide +kernel
theorem dX12_engine__4 : decode cX12_engine_ 4 = .ok (.invokevirtual 473, 3) := by decide +kernel
theorem dX12_engine__7 : decode cX12_engine_ 7 = .ok (.ireturn, 1) := by decide +kernel
abbrev M_X12_engine_ : aM := (yX12_engine_.cls, cX12_engine_, 3, (some .int), [], yX12_engine_.name == "<init>")
abbrev J_X12_engine_ (l : Launch) (E : aE) (n0 m0 : Nat) := GG (fun (v : Int32) => .inl (some (.int v))) l E M_X12_engine_ 3 69 n0 m0
theorem b_X12_engine_ {l : Launch} {E : aE} (hl : l.stackTraces = false) (n0 m0 : Nat) (x1 : Nat) (x2 : Int32) (x3 : Int32) (h0 : aH) : J_X12_engine_ l E n0 m0 0 [(0, .ref (e_z E + x1)), (1, .int x2), (2, .int x3)] [] h0 (m_X12_engine_ x1 x2 x3 h0) := by
  unfold m_X12_engine_
  refine g_aload_n (pc := 0) dX12_engine__0 0 rfl ?_
  refine g_iload_n (pc := 1) dX12_engine__1 1 rfl ?_
  refine g_iload_n (pc := 2) dX12_engine__2 2 rfl ?_
  refine g_iconst (pc := 3) dX12_engine__3 ci_0 ?_
  refine g_gS (fun hs => ?_)
  refine g_bRi (pc := 4) (c_V cl12 hs (p_X12_leavingAt hl x1 x2 x3 (0 : Int32) h0) y_X12_leavingAt tw2196 dX12_engine__4 rfl (st := []) rfl (Nat.le_of_ble_eq_true rfl) (Nat.le_of_ble_eq_true rfl) (Nat.le_of_ble_eq_true rfl)) (fun x4 h1 => ?_)
  exact g_ret (pc := 7) rfl (isRet_i _) dX12_engine__7 rfl
theorem p_X12_engine_ {l : Launch} {E : aE} (hl : l.stackTraces = false) (x1 : Nat) (x2 : Int32) (x3 : Int32) (h0 : aH) : MO (fun (v : Int32) => .inl (some (.int v))) l E yX12_engine_ (.code yX12_engine_ cX12_engine_ 3 (some .int)) 3 69 [.ref (e_z E + x1), .int x2, .int x3] h0 (m_X12_engine_ x1 x2 x3 h0) := g_met hl (by decide +kernel) (Nat.le_of_ble_eq_true rfl) (b_X12_engine_ hl _ _ x1 x2 x3 h0)
theorem dX12_leftAt_0 : decode cX12_leftAt 0 = .ok (.aload_n 0, 1) := by decide +kernel
theorem dX12_leftAt_1 : decode cX12_leftAt 1 = .ok (.iload_n 1, 1) := by decide +kernel
theorem dX12_leftAt_2 : decode cX12_leftAt 2 = .ok (.iload_n 2, 1) := by decide +kernel
theorem dX12_leftAt_3 : decode cX12_leftAt 3 = .ok (.iconst 1, 1) := by decide +kernel
theorem dX12_leftAt_4 : decode cX12_leftAt 4 = .ok (.invokevirtual 473, 3) := by decide +kernel
theorem dX12_leftAt_7 : decode cX12_leftAt 7 = .ok (.ireturn, 1) := by decide +kernel
abbrev M_X12_leftAt : aM := (yX12_leftAt.cls, cX12_leftAt, 3, (some .int), [], yX12_leftAt.name == "<init>")
abbrev J_X12_leftAt (l : Launch) (E : aE) (n0 m0 : Nat) := GG (fun (v : Int32) => .inl (some (.int v))) l E M_X12_leftAt 3 69 n0 m0
theorem b_X12_leftAt {l : Launch} {E : aE} (hl : l.stackTraces = false) (n0 m0 : Nat) (x1 : Nat) (x2 : Int32) (x3 : Int32) (h0 : aH) : J_X12_leftAt l E n0 m0 0 [(0, .ref (e_z E + x1)), (1, .int x2), (2, .int x3)] [] h0 (m_X12_leftAt x1 x2 x3 h0) := by
  unfold m_X12_leftAt
  refine g_aload_n (pc := 0) dX12_leftAt_0 0 rfl ?_
  refine g_iload_n (pc := 1) dX12_leftAt_1 1 rfl ?_
  refine g_iload_n (pc := 2) dX12_leftAt_2 2 rfl ?_
  refine g_iconst (pc := 3) dX12_leftAt_3 ci_1 ?_
  refine g_gS (fun hs => ?_)
  refine g_bRi (pc := 4) (c_V cl12 hs (p_X12_leavingAt hl x1 x2 x3 (1 : Int32) h0) y_X12_leavingAt tw2196 dX12_leftAt_4 rfl (st := []) rfl (Nat.le_of_ble_eq_true rfl) (Nat.le_of_ble_eq_true rfl) (Nat.le_of_ble_eq_true rfl)) (fun x4 h1 => ?_)
  exact g_ret (pc := 7) rfl (isRet_i _) dX12_leftAt_7 rfl
theorem p_X12_leftAt {l : Launch} {E : aE} (hl : l.stackTraces = false) (x1 : Nat) (x2 : Int32) (x3 : Int32) (h0 : aH) : MO (fun (v : Int32) => .inl (some (.int v))) l E yX12_leftAt (.code yX12_leftAt cX12_leftAt 3 (some .int)) 3 69 [.ref (e_z E + x1), .int x2, .int x3] h0 (m_X12_leftAt x1 x2 x3 h0) := g_met hl (by decide +kernel) (Nat.le_of_ble_eq_true rfl) (b_X12_leftAt hl _ _ x1 x2 x3 h0)
theorem dX12_member_0 : decode cX12_member 0 = .ok (.aload_n 0, 1) := by decide +kernel
theorem dX12_member_1 : decode cX12_member 1 = .ok (.iload_n 1, 1) := by decide +kernel
theorem dX12_member_2 : decode cX12_member 2 = .ok (.iload_n 2, 1) := by decide +kernel
theorem dX12_member_3 : decode cX12_member 3 = .ok (.iconst 2, 1) := by decide +kernel
theorem dX12_member_4 : decode cX12_member 4 = .ok (.invokevirtual 473, 3) := by decide +kernel
theorem dX12_member_7 : decode cX12_member 7 = .ok (.istore 4, 2) := by decide +kernel
theorem dX12_member_9 : decode cX12_member 9 = .ok (.aload_n 0, 1) := by decide +kernel
theorem dX12_member_10 : decode cX12_member 10 = .ok (.getfield 166, 3) := by decide +kernel
theorem dX12_member_13 : decode cX12_member 13 = .ok (.ifCond .ne 25, 3) := by decide +kernel
theorem dX12_member_16 : decode cX12_member 16 = .ok (.iload_n 3, 1) := by decide +kernel
theorem dX12_member_17 : decode cX12_member 17 = .ok (.i2l, 1) := by decide +kernel
theorem dX12_member_18 : decode cX12_member 18 = .ok (.lconst 0, 1) := by decide +kernel
theorem dX12_member_19 : decode cX12_member 19 = .ok (.iload 4, 2) := by decide +kernel
theorem dX12_member_21 : decode cX12_member 21 = .ok (.invokestatic 415, 3) := by decide +kernel
theorem dX12_member_24 : decode cX12_member 24 = .ok (.iconst 1, 1) := by decide +kernel
theorem dX12_member_25 : decode cX12_member 25 = .ok (.isub, 1) := by decide +kernel
theorem dX12_member_26 : decode cX12_member 26 = .ok (.i2l, 1) := by decide +kernel
theorem dX12_member_27 : decode cX12_member 27 = .ok (.invokestatic 176, 3) := by decide +kernel
theorem dX12_member_30 : decode cX12_member 30 = .ok (.ifCond .ne 8, 3) := by decide +kernel
theorem dX12_member_33 : decode cX12_member 33 = .ok (.aload_n 0, 1) := by decide +kernel
theorem dX12_member_34 : decode cX12_member 34 = .ok (.iconst 1, 1) := by decide +kernel
theorem dX12_member_35 : decode cX12_member 35 = .ok (.putfield 166, 3) := by decide +kernel
theorem dX12_member_38 : decode cX12_member 38 = .ok (.iconst 0, 1) := by decide +kernel
theorem dX12_member_39 : decode cX12_member 39 = .ok (.istore 5, 2) := by decide +kernel
theorem dX12_member_41 : decode cX12_member 41 = .ok (.iconst 0, 1) := by decide +kernel
theorem dX12_member_42 : decode cX12_member 42 = .ok (.istore 6, 2) := by decide +kernel
theorem dX12_member_44 : decode cX12_member 44 = .ok (.iload 6, 2) := by decide +kernel
theorem dX12_member_46 : decode cX12_member 46 = .ok (.aload_n 0, 1) := by decide +kernel
theorem dX12_member_47 : decode cX12_member 47 = .ok (.getfield 325, 3) := by decide +kernel
theorem dX12_member_50 : decode cX12_member 50 = .ok (.if_icmp .ge 38, 3) := by decide +kernel
theorem dX12_member_53 : decode cX12_member 53 = .ok (.aload_n 0, 1) := by decide +kernel
theorem dX12_member_54 : decode cX12_member 54 = .ok (.getfield 166, 3) := by decide +kernel
theorem dX12_member_57 : decode cX12_member 57 = .ok (.ifCond .ne 31, 3) := by decide +kernel
theorem dX12_member_60 : decode cX12_member 60 = .ok (.iload 4, 2) := by decide +kernel
theorem dX12_member_62 : decode cX12_member 62 = .ok (.iload 6, 2) := by decide +kernel
theorem dX12_member_64 : decode cX12_member 64 = .ok (.ishr, 1) := by decide +kernel
theorem dX12_member_65 : decode cX12_member 65 = .ok (.iconst 1, 1) := by decide +kernel
theorem dX12_member_66 : decode cX12_member 66 = .ok (.iand, 1) := by decide +kernel
theorem dX12_member_67 : decode cX12_member 67 = .ok (.ifCond .eq 15, 3) := by decide +kernel
theorem dX12_member_70 : decode cX12_member 70 = .ok (.iload 5, 2) := by decide +kernel
theorem dX12_member_72 : decode cX12_member 72 = .ok (.iload_n 3, 1) := by decide +kernel
theorem dX12_member_73 : decode cX12_member 73 = .ok (.if_icmp .ne 6, 3) := by decide +kernel
theorem dX12_member_76 : decode cX12_member 76 = .ok (.iload 6, 2) := by decide +kernel
theorem dX12_member_78 : decode cX12_member 78 = .ok (.ireturn, 1) := by decide +kernel
theorem dX12_member_79 : decode cX12_member 79 = .ok (.iinc 5 1, 3) := by decide +kernel
theorem dX12_member_82 : decode cX12_member 82 = .ok (.iinc 6 1, 3) := by decide +kernel
theorem dX12_member_85 : decode cX12_member 85 = .ok (.goto (-41), 3) := by decide +kernel
theorem dX12_member_88 : decode cX12_member 88 = .ok (.iconst 0, 1) := by decide +kernel
theorem dX12_member_89 : decode cX12_member 89 = .ok (.ireturn, 1) := by decide +kernel
abbrev M_X12_member : aM := (yX12_member.cls, cX12_member, 7, (some .int), [], yX12_member.name == "<init>")
abbrev J_X12_member (l : Launch) (E : aE) (n0 m0 : Nat) := GG (fun (v : Int32) => .inl (some (.int v))) l E M_X12_member 3 69 n0 m0
theorem b_X12_member {l : Launch} {E : aE} (hl : l.stackTraces = false) (n0 m0 : Nat) (x1 : Nat) (x2 : Int32) (x3 : Int32) (x4 : Int32) (h0 : aH) : J_X12_member l E n0 m0 0 [(0, .ref (e_z E + x1)), (1, .int x2), (2, .int x3), (3, .int x4)] [] h0 (m_X12_member x1 x2 x3 x4 h0) := by
  unfold m_X12_member
  refine g_aload_n (pc := 0) dX12_member_0 0 rfl ?_
  refine g_iload_n (pc := 1) dX12_member_1 1 rfl ?_
  refine g_iload_n (pc := 2) dX12_member_2 2 rfl ?_
  refine g_iconst (pc := 3) dX12_member_3 ci_2 ?_
  refine g_gS (fun hs => ?_)
  refine g_bRi (pc := 4) (c_V cl12 hs (p_X12_leavingAt hl x1 x2 x3 (2 : Int32) h0) y_X12_leavingAt tw2196 dX12_member_4 rfl (st := []) rfl (Nat.le_of_ble_eq_true rfl) (Nat.le_of_ble_eq_true rfl) (Nat.le_of_ble_eq_true rfl)) (fun x5 h1 => ?_)
  refine g_istore (pc := 7) (lv' := [(4, .int x5), (0, .ref (e_z E + x1)), (1, .int x2), (2, .int x3), (3, .int x4)]) dX12_member_7 (Nat.le_of_ble_eq_true rfl) rfl ?_
  refine g_aload_n (pc := 9) dX12_member_9 1 rfl ?_
  refine g_geti (pc := 10) cl12 (Nat.le_of_ble_eq_true rfl) fk1551 (fun _ _ _ => rfl) dX12_member_10 (fun x6 => ?_)
  refine g_join (fun k => ∀ (h2 : aH), J_X12_member l E n0 m0 38 [(0, .ref (e_z E + x1)), (3, .int x4), (4, .int x5)] [] h2 (k h2)) (fun h2 => ?_) (fun k38 hk38 => ?_)
  · refine g_iconst (pc := 38) dX12_member_38 ci_0 ?_
    refine g_istore (pc := 39) (lv' := [(5, .int (0 : Int32)), (0, .ref (e_z E + x1)), (3, .int x4), (4, .int x5)]) dX12_member_39 (Nat.le_of_ble_eq_true rfl) rfl ?_
    refine g_iconst (pc := 41) dX12_member_41 ci_0 ?_
    refine g_istore (pc := 42) (lv' := [(6, .int (0 : Int32)), (5, .int (0 : Int32)), (0, .ref (e_z E + x1)), (3, .int x4), (4, .int x5)]) dX12_member_42 (Nat.le_of_ble_eq_true rfl) rfl ?_
    refine g_join (fun k => ∀ (h3 : aH), J_X12_member l E n0 m0 88 [] [] h3 (k h3)) (fun h3 => ?_) (fun k88 hk88 => ?_)
    · refine g_iconst (pc := 88) dX12_member_88 ci_0 ?_
      exact g_ret (pc := 89) rfl (isRet_i _) dX12_member_89 rfl
    refine g_join (fun k => ∀ (x7 : Int32) (h4 : aH), J_X12_member l E n0 m0 76 [(6, .int x7)] [] h4 (k x7 h4)) (fun x7 h4 => ?_) (fun k76 hk76 => ?_)
    · refine g_iload (pc := 76) dX12_member_76 0 rfl ?_
      exact g_ret (pc := 78) rfl (isRet_i _) dX12_member_78 rfl
    refine g_lv [2, 3, 4, 1, 0] rfl ?_
    refine g_loop2 (F := (m_X12_member_L44 x1 x4 x5 k88 k76)) (fun x8 x9 => [(0, .ref (e_z E + x1)), (3, .int x4), (4, .int x5), (5, .int x8), (6, .int x9)]) (fun r44 hr44 x8 x9 h5 => ?_) _ _ _ _
    unfold m_X12_member_L44
    refine g_iload (pc := 44) dX12_member_44 4 rfl ?_
    refine g_aload_n (pc := 46) dX12_member_46 0 rfl ?_
    refine g_geti (pc := 47) cl12 (Nat.le_of_ble_eq_true rfl) fk1559 (fun _ _ _ => rfl) dX12_member_47 (fun x10 => ?_)
    refine g_icmpge (pc := 50) (tgt := 88) dX12_member_50 rfl ?_ ?_
    · refine g_aload_n (pc := 53) dX12_member_53 0 rfl ?_
      refine g_geti (pc := 54) cl12 (Nat.le_of_ble_eq_true rfl) fk1551 (fun _ _ _ => rfl) dX12_member_54 (fun x11 => ?_)
      refine g_ifne (pc := 57) (tgt := 88) dX12_member_57 rfl ?_ ?_
      · refine g_iload (pc := 60) dX12_member_60 2 rfl ?_
        refine g_iload (pc := 62) dX12_member_62 4 rfl ?_
        refine g_ishr (pc := 64) dX12_member_64 ?_
        refine g_iconst (pc := 65) dX12_member_65 ci_1 ?_
        refine g_iand (pc := 66) dX12_member_66 ?_
        refine g_join (fun k => ∀ (x12 : Int32) (h6 : aH), J_X12_member l E n0 m0 82 [(0, .ref (e_z E + x1)), (3, .int x4), (4, .int x5), (5, .int x12), (6, .int x9)] [] h6 (k x12 h6)) (fun x12 h6 => ?_) (fun k82 hk82 => ?_)
        · refine g_iincN (pc := 82) dX12_member_82 4 rfl ci_1 (Nat.le_of_ble_eq_true rfl) (fun x13 => ?_)
          refine g_lvr (lv' := [(6, .int x13), (0, .ref (e_z E + x1)), (3, .int x4), (4, .int x5), (5, .int x12)]) rfl ?_
          refine g_goto (pc := 85) (tgt := 44) dX12_member_85 rfl ?_
          refine g_lv [1, 2, 3, 4, 0] rfl ?_
          exact hr44 x12 x13 h6
        refine g_ifeq (pc := 67) (tgt := 82) dX12_member_67 rfl ?_ ?_
        · exact hk82 x8 h5
        · refine g_iload (pc := 70) dX12_member_70 3 rfl ?_
          refine g_iload_n (pc := 72) dX12_member_72 1 rfl ?_
          refine g_icmpne (pc := 73) (tgt := 79) dX12_member_73 rfl ?_ ?_
          · refine g_lv [4] rfl ?_
            exact hk76 x9 h5
          · refine g_iincN (pc := 79) dX12_member_79 3 rfl ci_1 (Nat.le_of_ble_eq_true rfl) (fun x14 => ?_)
            refine g_lvr (lv' := [(5, .int x14), (0, .ref (e_z E + x1)), (3, .int x4), (4, .int x5), (6, .int x9)]) rfl ?_
            refine g_lv [1, 2, 3, 0, 4] rfl ?_
            exact hk82 x14 h5
      · refine g_lv [] rfl ?_
        exact hk88 h5
    · refine g_lv [] rfl ?_
      exact hk88 h5
  refine g_ifne (pc := 13) (tgt := 38) dX12_member_13 rfl ?_ ?_
  · refine g_iload_n (pc := 16) dX12_member_16 4 rfl ?_
    refine g_i2l (pc := 17) dX12_member_17 ?_
    refine g_lconst (pc := 18) dX12_member_18 cl_0 ?_
    refine g_iload (pc := 19) dX12_member_19 0 rfl ?_
    refine g_bRi (pc := 21) (c_S (p_X12_many hl x5 h1) y_X12_many tw2101 dX12_member_21 rfl (st := [.long (0 : Int64), .long (x4.toInt64)]) rfl (Nat.le_of_ble_eq_true rfl) (Nat.le_of_ble_eq_true rfl) (Nat.le_of_ble_eq_true rfl)) (fun x15 h7 => ?_)
    refine g_iconst (pc := 24) dX12_member_24 ci_1 ?_
    refine g_isub (pc := 25) dX12_member_25 ?_
    refine g_i2l (pc := 26) dX12_member_26 ?_
    refine g_bRi (pc := 27) (c_S (p_X12_in hl (x4.toInt64) (0 : Int64) ((x15 - (1 : Int32)).toInt64) h7) y_X12_in tw1782 dX12_member_27 rfl (st := []) rfl (Nat.le_of_ble_eq_true rfl) (Nat.le_of_ble_eq_true rfl) (Nat.le_of_ble_eq_true rfl)) (fun x16 h8 => ?_)
    refine g_ifne (pc := 30) (tgt := 38) dX12_member_30 rfl ?_ ?_
    · refine g_aload_n (pc := 33) dX12_member_33 1 rfl ?_
      refine g_iconst (pc := 34) dX12_member_34 ci_1 ?_
      refine g_puti (pc := 35) cl12 (Nat.le_of_ble_eq_true rfl) (Or.inl ⟨rfl, fk1551⟩) (fun _ _ _ => rfl) (fun _ => ⟨rfl, rfl⟩) dX12_member_35 (fun h9 => ?_)
      refine g_lv [1, 4, 0] rfl ?_
      exact hk38 h9
    · refine g_lv [1, 4, 0] rfl ?_
      exact hk38 h8
  · refine g_lv [1, 4, 0] rfl ?_
    exact hk38 h1
theorem p_X12_member {l : Launch} {E : aE} (hl : l.stackTraces = false) (x1 : Nat) (x2 : Int32) (x3 : Int32) (x4 : Int32) (h0 : aH) : MO (fun (v : Int32) => .inl (some (.int v))) l E yX12_member (.code yX12_member cX12_member 7 (some .int)) 3 69 [.ref (e_z E + x1), .int x2, .int x3, .int x4] h0 (m_X12_member x1 x2 x3 x4 h0) := g_met hl (by decide +kernel) (Nat.le_of_ble_eq_true rfl) (b_X12_member hl _ _ x1 x2 x3 x4 h0)
theorem dX12_totalCost_0 : decode cX12_totalCost 0 = .ok (.aload_n 0, 1) := by decide +kernel
theorem dX12_totalCost_1 : decode cX12_totalCost 1 = .ok (.iconst 0, 1) := by decide +kernel
theorem dX12_totalCost_2 : decode cX12_totalCost 2 = .ok (.putfield 166, 3) := by decide +kernel
theorem dX12_totalCost_5 : decode cX12_totalCost 5 = .ok (.iconst 0, 1) := by decide +kernel
theorem dX12_totalCost_6 : decode cX12_totalCost 6 = .ok (.istore_n 1, 1) := by decide +kernel
theorem dX12_totalCost_7 : decode cX12_totalCost 7 = .ok (.iconst 0, 1) := by decide +kernel
theorem dX12_totalCost_8 : decode cX12_totalCost 8 = .ok (.istore_n 2, 1) := by decide +kernel
theorem dX12_totalCost_9 : decode cX12_totalCost 9 = .ok (.iload_n 2, 1) := by decide +kernel
theorem dX12_totalCost_10 : decode cX12_totalCost 10 = .ok (.aload_n 0, 1) := by decide +kernel
theorem dX12_totalCost_11 : decode cX12_totalCost 11 = .ok (.getfield 7, 3) := by decide +kernel
theorem dX12_totalCost_14 : decode cX12_totalCost 14 = .ok (.iconst 1, 1) := by decide +kernel
theorem dX12_totalCost_15 : decode cX12_totalCost 15 = .ok (.iaload, 1) := by decide +kernel
theorem dX12_totalCost_16 : decode cX12_totalCost 16 = .ok (.if_icmp .ge 18, 3) := by decide +kernel
theorem dX12_totalCost_19 : decode cX12_totalCost 19 = .ok (.iload_n 1, 1) := by decide +kernel
theorem dX12_totalCost_20 : decode cX12_totalCost 20 = .ok (.aload_n 0, 1) := by decide +kernel
theorem dX12_totalCost_21 : decode cX12_totalCost 21 = .ok (.iload_n 2, 1) := by decide +kernel
theorem dX12_totalCost_22 : decode cX12_totalCost 22 = .ok (.iconst 0, 1) := by decide +kernel
theorem dX12_totalCost_23 : decode cX12_totalCost 23 = .ok (.invokevirtual 470, 3) := by decide +kernel
theorem dX12_totalCost_26 : decode cX12_totalCost 26 = .ok (.iadd, 1) := by decide +kernel
theorem dX12_totalCost_27 : decode cX12_totalCost 27 = .ok (.istore_n 1, 1) := by decide +kernel
theorem dX12_totalCost_28 : decode cX12_totalCost 28 = .ok (.iinc 2 1, 3) := by decide +kernel
theorem dX12_totalCost_31 : decode cX12_totalCost 31 = .ok (.goto (-22), 3) := by decide +kernel
theorem dX12_totalCost_34 : decode cX12_totalCost 34 = .ok (.iload_n 1, 1) := by decide +kernel
theorem dX12_totalCost_35 : decode cX12_totalCost 35 = .ok (.ireturn, 1) := by decide +kernel
abbrev M_X12_totalCost : aM := (yX12_totalCost.cls, cX12_totalCost, 3, (some .int), [], yX12_totalCost.name == "<init>")
abbrev J_X12_totalCost (l : Launch) (E : aE) (n0 m0 : Nat) := GG (fun (v : Int32) => .inl (some (.int v))) l E M_X12_totalCost 1 22 n0 m0
theorem b_X12_totalCost {l : Launch} {E : aE} (hl : l.stackTraces = false) (n0 m0 : Nat) (x1 : Nat) (h0 : aH) : J_X12_totalCost l E n0 m0 0 [(0, .ref (e_z E + x1))] [] h0 (m_X12_totalCost x1 h0) := by
  unfold m_X12_totalCost
  refine g_aload_n (pc := 0) dX12_totalCost_0 0 rfl ?_
  refine g_iconst (pc := 1) dX12_totalCost_1 ci_0 ?_
  refine g_puti (pc := 2) cl12 (Nat.le_of_ble_eq_true rfl) (Or.inl ⟨rfl, fk1551⟩) (fun _ _ _ => rfl) (fun _ => ⟨rfl, rfl⟩) dX12_totalCost_2 (fun h1 => ?_)
  refine g_iconst (pc := 5) dX12_totalCost_5 ci_0 ?_
  refine g_istore_n (pc := 6) (lv' := [(1, .int (0 : Int32)), (0, .ref (e_z E + x1))]) dX12_totalCost_6 (Nat.le_of_ble_eq_true rfl) rfl ?_
  refine g_iconst (pc := 7) dX12_totalCost_7 ci_0 ?_
  refine g_istore_n (pc := 8) (lv' := [(2, .int (0 : Int32)), (1, .int (0 : Int32)), (0, .ref (e_z E + x1))]) dX12_totalCost_8 (Nat.le_of_ble_eq_true rfl) rfl ?_
  refine g_join (fun k => ∀ (x2 : Int32) (h2 : aH), J_X12_totalCost l E n0 m0 34 [(1, .int x2)] [] h2 (k x2 h2)) (fun x2 h2 => ?_) (fun k34 hk34 => ?_)
  · refine g_iload_n (pc := 34) dX12_totalCost_34 0 rfl ?_
    exact g_ret (pc := 35) rfl (isRet_i _) dX12_totalCost_35 rfl
  refine g_lv [2, 1, 0] rfl ?_
  refine g_loop2 (F := (m_X12_totalCost_L9 x1 k34)) (fun x3 x4 => [(0, .ref (e_z E + x1)), (1, .int x3), (2, .int x4)]) (fun r9 hr9 x3 x4 h3 => ?_) _ _ _ _
  unfold m_X12_totalCost_L9
  refine g_iload_n (pc := 9) dX12_totalCost_9 2 rfl ?_
  refine g_aload_n (pc := 10) dX12_totalCost_10 0 rfl ?_
  refine g_getr (pc := 11) cl12 (Nat.le_of_ble_eq_true rfl) fk1552 (fun _ _ _ => rfl) dX12_totalCost_11 (fun x5 => ?_)
  refine g_iconst (pc := 14) dX12_totalCost_14 ci_1 ?_
  refine g_iald (pc := 15) dX12_totalCost_15 (fun x6 => ?_)
  refine g_icmpge (pc := 16) (tgt := 34) dX12_totalCost_16 rfl ?_ ?_
  · refine g_iload_n (pc := 19) dX12_totalCost_19 1 rfl ?_
    refine g_aload_n (pc := 20) dX12_totalCost_20 0 rfl ?_
    refine g_iload_n (pc := 21) dX12_totalCost_21 2 rfl ?_
    refine g_iconst (pc := 22) dX12_totalCost_22 ci_0 ?_
    refine g_gS (fun hs => ?_)
    refine g_bRi (pc := 23) (c_V cl12 hs (p_X12_callAt hl x1 x4 (0 : Int32) h3) y_X12_callAt tw2176 dX12_totalCost_23 rfl (st := [.int x3]) rfl (Nat.le_of_ble_eq_true rfl) (Nat.le_of_ble_eq_true rfl) (Nat.le_of_ble_eq_true rfl)) (fun x7 h4 => ?_)
    refine g_iadd (pc := 26) dX12_totalCost_26 ?_
    refine g_topi (fun x8 => ?_)
    refine g_istore_n (pc := 27) (lv' := [(1, .int x8), (0, .ref (e_z E + x1)), (2, .int x4)]) dX12_totalCost_27 (Nat.le_of_ble_eq_true rfl) rfl ?_
    refine g_iincN (pc := 28) dX12_totalCost_28 2 rfl ci_1 (Nat.le_of_ble_eq_true rfl) (fun x9 => ?_)
    refine g_lvr (lv' := [(2, .int x9), (1, .int x8), (0, .ref (e_z E + x1))]) rfl ?_
    refine g_goto (pc := 31) (tgt := 9) dX12_totalCost_31 rfl ?_
    refine g_lv [2, 1, 0] rfl ?_
    exact hr9 x8 x9 h4
  · refine g_lv [1] rfl ?_
    exact hk34 x3 h3
theorem p_X12_totalCost {l : Launch} {E : aE} (hl : l.stackTraces = false) (x1 : Nat) (h0 : aH) : MO (fun (v : Int32) => .inl (some (.int v))) l E yX12_totalCost (.code yX12_totalCost cX12_totalCost 3 (some .int)) 1 22 [.ref (e_z E + x1)] h0 (m_X12_totalCost x1 h0) := g_met hl (by decide +kernel) (Nat.le_of_ble_eq_true rfl) (b_X12_totalCost hl _ _ x1 h0)
theorem dX12_keeps_0 : decode cX12_keeps 0 = .ok (.aload_n 0, 1) := by decide +kernel
theorem dX12_keeps_1 : decode cX12_keeps 1 = .ok (.getfield 337, 3) := by decide +kernel
theorem dX12_keeps_4 : decode cX12_keeps 4 = .ok (.bipush 10, 2) := by decide +kernel
theorem dX12_keeps_6 : decode cX12_keeps 6 = .ok (.if_icmp .ne 46, 3) := by decide +kernel
theorem dX12_keeps_9 : decode cX12_keeps 9 = .ok (.sipush 603, 3) := by decide +kernel
theorem dX12_keeps_12 : decode cX12_keeps 12 = .ok (.istore_n 1, 1) := by decide +kernel
theorem dX12_keeps_13 : decode cX12_keeps 13 = .ok (.iload_n 1, 1) := by decide +kernel
theorem dX12_keeps_14 : decode cX12_keeps 14 = .ok (.sipush 6030, 3) := by decide +kernel
theorem dX12_keeps_17 : decode cX12_keeps 17 = .ok (.if_icmp .ge 25, 3) := by decide +kernel
theorem dX12_keeps_20 : decode cX12_keeps 20 = .ok (.aload_n 0, 1) := by decide +kernel
theorem dX12_keeps_21 : decode cX12_keeps 21 = .ok (.getfield 13, 3) := by decide +kernel
theorem dX12_keeps_24 : decode cX12_keeps 24 = .ok (.iload_n 1, 1) := by decide +kernel
theorem dX12_keeps_25 : decode cX12_keeps 25 = .ok (.sipush 603, 3) := by decide +kernel
theorem dX12_keeps_28 : decode cX12_keeps 28 = .ok (.isub, 1) := by decide +kernel
theorem dX12_keeps_29 : decode cX12_keeps 29 = .ok (.aload_n 0, 1) := by decide +kernel
theorem dX12_keeps_30 : decode cX12_keeps 30 = .ok (.getfield 13, 3) := by decide +kernel
theorem dX12_keeps_33 : decode cX12_keeps 33 = .ok (.iload_n 1, 1) := by decide +kernel
theorem dX12_keeps_34 : decode cX12_keeps 34 = .ok (.iaload, 1) := by decide +kernel
theorem dX12_keeps_35 : decode cX12_keeps 35 = .ok (.iastore, 1) := by decide +kernel
theorem dX12_keeps_36 : decode cX12_keeps 36 = .ok (.iinc 1 1, 3) := by decide +kernel
theorem dX12_keeps_39 : decode cX12_keeps 39 = .ok (.goto (-26), 3) := by decide +kernel
theorem dX12_keeps_42 : decode cX12_keeps 42 = .ok (.aload_n 0, 1) := by decide +kernel
theorem dX12_keeps_43 : decode cX12_keeps 43 = .ok (.dup, 1) := by decide +kernel
theorem dX12_keeps_44 : decode cX12_keeps 44 = .ok (.getfield 337, 3) := by decide +kernel
theorem dX12_keeps_47 : decode cX12_keeps 47 = .ok (.iconst 1, 1) := by decide +kernel
theorem dX12_keeps_48 : decode cX12_keeps 48 = .ok (.isub, 1) := by decide +kernel
theorem dX12_keeps_49 : decode cX12_keeps 49 = .ok (.putfield 337, 3) := by decide +kernel
theorem dX12_keeps_52 : decode cX12_keeps 52 = .ok (.iconst 0, 1) := by decide +kernel
theorem dX12_keeps_53 : decode cX12_keeps 53 = .ok (.istore_n 1, 1) := by decide +kernel
theorem dX12_keeps_54 : decode cX12_keeps 54 = .ok (.iload_n 1, 1) := by decide +kernel
theorem dX12_keeps_55 : decode cX12_keeps 55 = .ok (.sipush 603, 3) := by decide +kernel
theorem dX12_keeps_58 : decode cX12_keeps 58 = .ok (.if_icmp .ge 30, 3) := by decide +kernel
theorem dX12_keeps_61 : decode cX12_keeps 61 = .ok (.aload_n 0, 1) := by decide +kernel
theorem dX12_keeps_62 : decode cX12_keeps 62 = .ok (.getfield 13, 3) := by decide +kernel
theorem dX12_keeps_65 : decode cX12_keeps 65 = .ok (.sipush 603, 3) := by decide +kernel
theorem dX12_keeps_68 : decode cX12_keeps 68 = .ok (.aload_n 0, 1) := by decide +kernel
theorem dX12_keeps_69 : decode cX12_keeps 69 = .ok (.getfield 337, 3) := by decide +kernel
theorem dX12_keeps_72 : decode cX12_keeps 72 = .ok (.imul, 1) := by decide +kernel
theorem dX12_keeps_73 : decode cX12_keeps 73 = .ok (.iload_n 1, 1) := by decide +kernel
theorem dX12_keeps_74 : decode cX12_keeps 74 = .ok (.iadd, 1) := by decide +kernel
theorem dX12_keeps_75 : decode cX12_keeps 75 = .ok (.aload_n 0, 1) := by decide +kernel
theorem dX12_keeps_76 : decode cX12_keeps 76 = .ok (.getfield 7, 3) := by decide +kernel
theorem dX12_keeps_79 : decode cX12_keeps 79 = .ok (.iload_n 1, 1) := by decide +kernel
theorem dX12_keeps_80 : decode cX12_keeps 80 = .ok (.iaload, 1) := by decide +kernel
theorem dX12_keeps_81 : decode cX12_keeps 81 = .ok (.iastore, 1) := by decide +kernel
theorem dX12_keeps_82 : decode cX12_keeps 82 = .ok (.iinc 1 1, 3) := by decide +kernel
theorem dX12_keeps_85 : decode cX12_keeps 85 = .ok (.goto (-31), 3) := by decide +kernel
theorem dX12_keeps_88 : decode cX12_keeps 88 = .ok (.aload_n 0, 1) := by decide +kernel
theorem dX12_keeps_89 : decode cX12_keeps 89 = .ok (.dup, 1) := by decide +kernel
theorem dX12_keeps_90 : decode cX12_keeps 90 = .ok (.getfield 337, 3) := by decide +kernel
theorem dX12_keeps_93 : decode cX12_keeps 93 = .ok (.iconst 1, 1) := by decide +kernel
theorem dX12_keeps_94 : decode cX12_keeps 94 = .ok (.iadd, 1) := by decide +kernel
theorem dX12_keeps_95 : decode cX12_keeps 95 = .ok (.putfield 337, 3) := by decide +kernel
theorem dX12_keeps_98 : decode cX12_keeps 98 = .ok (.return_, 1) := by decide +kernel
abbrev M_X12_keeps : aM := (yX12_keeps.cls, cX12_keeps, 2, none, [], yX12_keeps.name == "<init>")
abbrev J_X12_keeps (l : Launch) (E : aE) (n0 m0 : Nat) := GG (fun (_ : Unit) => .inl none) l E M_X12_keeps 0 0 n0 m0
theorem b_X12_keeps {l : Launch} {E : aE} (hl : l.stackTraces = false) (n0 m0 : Nat) (x1 : Nat) (h0 : aH) : J_X12_keeps l E n0 m0 0 [(0, .ref (e_z E + x1))] [] h0 (m_X12_keeps x1 h0) := by
  unfold m_X12_keeps
  refine g_aload_n (pc := 0) dX12_keeps_0 0 rfl ?_
  refine g_geti (pc := 1) cl12 (Nat.le_of_ble_eq_true rfl) fk1557 (fun _ _ _ => rfl) dX12_keeps_1 (fun x2 => ?_)
  refine g_bipush (pc := 4) dX12_keeps_4 cb_10 ?_
  refine g_join (fun k => ∀ (h1 : aH), J_X12_keeps l E n0 m0 52 [(0, .ref (e_z E + x1))] [] h1 (k h1)) (fun h1 => ?_) (fun k52 hk52 => ?_)
  · refine g_iconst (pc := 52) dX12_keeps_52 ci_0 ?_
    refine g_istore_n (pc := 53) (lv' := [(1, .int (0 : Int32)), (0, .ref (e_z E + x1))]) dX12_keeps_53 (Nat.le_of_ble_eq_true rfl) rfl ?_
    refine g_join (fun k => ∀ (h2 : aH), J_X12_keeps l E n0 m0 88 [(0, .ref (e_z E + x1))] [] h2 (k h2)) (fun h2 => ?_) (fun k88 hk88 => ?_)
    · refine g_aload_n (pc := 88) dX12_keeps_88 0 rfl ?_
      refine g_dup (pc := 89) rfl dX12_keeps_89 ?_
      refine g_geti (pc := 90) cl12 (Nat.le_of_ble_eq_true rfl) fk1557 (fun _ _ _ => rfl) dX12_keeps_90 (fun x3 => ?_)
      refine g_iconst (pc := 93) dX12_keeps_93 ci_1 ?_
      refine g_iadd (pc := 94) dX12_keeps_94 ?_
      refine g_puti (pc := 95) cl12 (Nat.le_of_ble_eq_true rfl) (Or.inl ⟨rfl, fk1557⟩) (fun _ _ _ => rfl) (fun _ => ⟨rfl, rfl⟩) dX12_keeps_95 (fun h3 => ?_)
      exact g_ret (pc := 98) rfl isRet_v dX12_keeps_98 rfl
    refine g_lv [1, 0] rfl ?_
    refine g_loop1 (F := (m_X12_keeps_L54 x1 k88)) (fun x4 => [(0, .ref (e_z E + x1)), (1, .int x4)]) (fun r54 hr54 x4 h4 => ?_) _ _ _
    unfold m_X12_keeps_L54
    refine g_iload_n (pc := 54) dX12_keeps_54 1 rfl ?_
    refine g_sipush (pc := 55) dX12_keeps_55 cs_603 ?_
    refine g_icmpge (pc := 58) (tgt := 88) dX12_keeps_58 rfl ?_ ?_
    · refine g_aload_n (pc := 61) dX12_keeps_61 0 rfl ?_
      refine g_getr (pc := 62) cl12 (Nat.le_of_ble_eq_true rfl) fk1553 (fun _ _ _ => rfl) dX12_keeps_62 (fun x5 => ?_)
      refine g_sipush (pc := 65) dX12_keeps_65 cs_603 ?_
      refine g_aload_n (pc := 68) dX12_keeps_68 0 rfl ?_
      refine g_geti (pc := 69) cl12 (Nat.le_of_ble_eq_true rfl) fk1557 (fun _ _ _ => rfl) dX12_keeps_69 (fun x6 => ?_)
      refine g_imul (pc := 72) dX12_keeps_72 ?_
      refine g_iload_n (pc := 73) dX12_keeps_73 1 rfl ?_
      refine g_iadd (pc := 74) dX12_keeps_74 ?_
      refine g_aload_n (pc := 75) dX12_keeps_75 0 rfl ?_
      refine g_getr (pc := 76) cl12 (Nat.le_of_ble_eq_true rfl) fk1552 (fun _ _ _ => rfl) dX12_keeps_76 (fun x7 => ?_)
      refine g_iload_n (pc := 79) dX12_keeps_79 1 rfl ?_
      refine g_iald (pc := 80) dX12_keeps_80 (fun x8 => ?_)
      refine g_iast (pc := 81) dX12_keeps_81 (fun h5 => ?_)
      refine g_iincN (pc := 82) dX12_keeps_82 1 rfl ci_1 (Nat.le_of_ble_eq_true rfl) (fun x9 => ?_)
      refine g_lvr (lv' := [(1, .int x9), (0, .ref (e_z E + x1))]) rfl ?_
      refine g_goto (pc := 85) (tgt := 54) dX12_keeps_85 rfl ?_
      refine g_lv [1, 0] rfl ?_
      exact hr54 x9 h5
    · refine g_lv [0] rfl ?_
      exact hk88 h4
  refine g_icmpne (pc := 6) (tgt := 52) dX12_keeps_6 rfl ?_ ?_
  · refine g_sipush (pc := 9) dX12_keeps_9 cs_603 ?_
    refine g_istore_n (pc := 12) (lv' := [(1, .int (603 : Int32)), (0, .ref (e_z E + x1))]) dX12_keeps_12 (Nat.le_of_ble_eq_true rfl) rfl ?_
    refine g_join (fun k => ∀ (h6 : aH), J_X12_keeps l E n0 m0 42 [(0, .ref (e_z E + x1))] [] h6 (k h6)) (fun h6 => ?_) (fun k42 hk42 => ?_)
    · refine g_aload_n (pc := 42) dX12_keeps_42 0 rfl ?_
      refine g_dup (pc := 43) rfl dX12_keeps_43 ?_
      refine g_geti (pc := 44) cl12 (Nat.le_of_ble_eq_true rfl) fk1557 (fun _ _ _ => rfl) dX12_keeps_44 (fun x10 => ?_)
      refine g_iconst (pc := 47) dX12_keeps_47 ci_1 ?_
      refine g_isub (pc := 48) dX12_keeps_48 ?_
      refine g_puti (pc := 49) cl12 (Nat.le_of_ble_eq_true rfl) (Or.inl ⟨rfl, fk1557⟩) (fun _ _ _ => rfl) (fun _ => ⟨rfl, rfl⟩) dX12_keeps_49 (fun h7 => ?_)
      exact hk52 h7
    refine g_lv [1, 0] rfl ?_
    refine g_loop1 (F := (m_X12_keeps_L13 x1 k42)) (fun x11 => [(0, .ref (e_z E + x1)), (1, .int x11)]) (fun r13 hr13 x11 h8 => ?_) _ _ _
    unfold m_X12_keeps_L13
    refine g_iload_n (pc := 13) dX12_keeps_13 1 rfl ?_
    refine g_sipush (pc := 14) dX12_keeps_14 cs_6030 ?_
    refine g_icmpge (pc := 17) (tgt := 42) dX12_keeps_17 rfl ?_ ?_
    · refine g_aload_n (pc := 20) dX12_keeps_20 0 rfl ?_
      refine g_getr (pc := 21) cl12 (Nat.le_of_ble_eq_true rfl) fk1553 (fun _ _ _ => rfl) dX12_keeps_21 (fun x12 => ?_)
      refine g_iload_n (pc := 24) dX12_keeps_24 1 rfl ?_
      refine g_sipush (pc := 25) dX12_keeps_25 cs_603 ?_
      refine g_isub (pc := 28) dX12_keeps_28 ?_
      refine g_aload_n (pc := 29) dX12_keeps_29 0 rfl ?_
      refine g_getr (pc := 30) cl12 (Nat.le_of_ble_eq_true rfl) fk1553 (fun _ _ _ => rfl) dX12_keeps_30 (fun x13 => ?_)
      refine g_iload_n (pc := 33) dX12_keeps_33 1 rfl ?_
      refine g_iald (pc := 34) dX12_keeps_34 (fun x14 => ?_)
      refine g_iast (pc := 35) dX12_keeps_35 (fun h9 => ?_)
      refine g_iincN (pc := 36) dX12_keeps_36 1 rfl ci_1 (Nat.le_of_ble_eq_true rfl) (fun x15 => ?_)
      refine g_lvr (lv' := [(1, .int x15), (0, .ref (e_z E + x1))]) rfl ?_
      refine g_goto (pc := 39) (tgt := 13) dX12_keeps_39 rfl ?_
      refine g_lv [1, 0] rfl ?_
      exact hr13 x15 h9
    · refine g_lv [0] rfl ?_
      exact hk42 h8
  · exact hk52 h0
theorem p_X12_keeps {l : Launch} {E : aE} (hl : l.stackTraces = false) (x1 : Nat) (h0 : aH) : MO (fun (_ : Unit) => .inl none) l E yX12_keeps (.code yX12_keeps cX12_keeps 2 none) 0 0 [.ref (e_z E + x1)] h0 (m_X12_keeps x1 h0) := g_met hl (by decide +kernel) (Nat.le_of_ble_eq_true rfl) (b_X12_keeps hl _ _ x1 h0)
theorem dX12_sends_0 : decode cX12_sends 0 = .ok (.iconst 0, 1) := by decide +kernel
theorem dX12_sends_1 : decode cX12_sends 1 = .ok (.istore_n 3, 1) := by decide +kernel
theorem dX12_sends_2 : decode cX12_sends 2 = .ok (.aload_n 0, 1) := by decide +kernel
theorem dX12_sends_3 : decode cX12_sends 3 = .ok (.getfield 7, 3) := by decide +kernel
theorem dX12_sends_6 : decode cX12_sends 6 = .ok (.iconst 0, 1) := by decide +kernel
theorem dX12_sends_7 : decode cX12_sends 7 = .ok (.iaload, 1) := by decide +kernel
theorem dX12_sends_8 : decode cX12_sends 8 = .ok (.istore 4, 2) := by decide +kernel
theorem dX12_sends_10 : decode cX12_sends 10 = .ok (.iload 4, 2) := by decide +kernel
theorem dX12_sends_12 : decode cX12_sends 12 = .ok (.iload_n 2, 1) := by decide +kernel
theorem dX12_sends_13 : decode cX12_sends 13 = .ok (.if_icmp .ge 26, 3) := by decide +kernel
theorem dX12_sends_16 : decode cX12_sends 16 = .ok (.iload_n 3, 1) := by decide +kernel
theorem dX12_sends_17 : decode cX12_sends 17 = .ok (.aload_n 0, 1) := by decide +kernel
theorem dX12_sends_18 : decode cX12_sends 18 = .ok (.iload 4, 2) := by decide +kernel
theorem dX12_sends_20 : decode cX12_sends 20 = .ok (.invokevirtual 347, 3) := by decide +kernel
theorem dX12_sends_23 : decode cX12_sends 23 = .ok (.ifCond .eq 7, 3) := by decide +kernel
theorem dX12_sends_26 : decode cX12_sends 26 = .ok (.iconst 2, 1) := by decide +kernel
theorem dX12_sends_27 : decode cX12_sends 27 = .ok (.goto 4, 3) := by decide +kernel
theorem dX12_sends_30 : decode cX12_sends 30 = .ok (.iconst 1, 1) := by decide +kernel
theorem dX12_sends_31 : decode cX12_sends 31 = .ok (.iadd, 1) := by decide +kernel
theorem dX12_sends_32 : decode cX12_sends 32 = .ok (.istore_n 3, 1) := by decide +kernel
theorem dX12_sends_33 : decode cX12_sends 33 = .ok (.iinc 4 1, 3) := by decide +kernel
theorem dX12_sends_36 : decode cX12_sends 36 = .ok (.goto (-26), 3) := by decide +kernel
theorem dX12_sends_39 : decode cX12_sends 39 = .ok (.aload_n 0, 1) := by decide +kernel
theorem dX12_sends_40 : decode cX12_sends 40 = .ok (.getfield 7, 3) := by decide +kernel
theorem dX12_sends_43 : decode cX12_sends 43 = .ok (.bipush 14, 2) := by decide +kernel
theorem dX12_sends_45 : decode cX12_sends 45 = .ok (.iload_n 1, 1) := by decide +kernel
theorem dX12_sends_46 : decode cX12_sends 46 = .ok (.iadd, 1) := by decide +kernel
theorem dX12_sends_47 : decode cX12_sends 47 = .ok (.iload_n 2, 1) := by decide +kernel
theorem dX12_sends_48 : decode cX12_sends 48 = .ok (.iastore, 1) := by decide +kernel
theorem dX12_sends_49 : decode cX12_sends 49 = .ok (.aload_n 0, 1) := by decide +kernel
theorem dX12_sends_50 : decode cX12_sends 50 = .ok (.getfield 7, 3) := by decide +kernel
theorem dX12_sends_53 : decode cX12_sends 53 = .ok (.bipush 38, 2) := by decide +kernel
theorem dX12_sends_55 : decode cX12_sends 55 = .ok (.iload_n 1, 1) := by decide +kernel
theorem dX12_sends_56 : decode cX12_sends 56 = .ok (.iadd, 1) := by decide +kernel
theorem dX12_sends_57 : decode cX12_sends 57 = .ok (.dup2, 1) := by decide +kernel
theorem dX12_sends_58 : decode cX12_sends 58 = .ok (.iaload, 1) := by decide +kernel
theorem dX12_sends_59 : decode cX12_sends 59 = .ok (.iload_n 3, 1) := by decide +kernel
theorem dX12_sends_60 : decode cX12_sends 60 = .ok (.iadd, 1) := by decide +kernel
theorem dX12_sends_61 : decode cX12_sends 61 = .ok (.iastore, 1) := by decide +kernel
theorem dX12_sends_62 : decode cX12_sends 62 = .ok (.iload_n 3, 1) := by decide +kernel
theorem dX12_sends_63 : decode cX12_sends 63 = .ok (.ireturn, 1) := by decide +kernel
abbrev M_X12_sends : aM := (yX12_sends.cls, cX12_sends, 5, (some .int), [], yX12_sends.name == "<init>")
abbrev J_X12_sends (l : Launch) (E : aE) (n0 m0 : Nat) := GG (fun (v : Int32) => .inl (some (.int v))) l E M_X12_sends 1 22 n0 m0
theorem b_X12_sends {l : Launch} {E : aE} (hl : l.stackTraces = false) (n0 m0 : Nat) (x1 : Nat) (x2 : Int32) (x3 : Int32) (h0 : aH) : J_X12_sends l E n0 m0 0 [(0, .ref (e_z E + x1)), (1, .int x2), (2, .int x3)] [] h0 (m_X12_sends x1 x2 x3 h0) := by
  unfold m_X12_sends
  refine g_iconst (pc := 0) dX12_sends_0 ci_0 ?_
  refine g_istore_n (pc := 1) (lv' := [(3, .int (0 : Int32)), (0, .ref (e_z E + x1)), (1, .int x2), (2, .int x3)]) dX12_sends_1 (Nat.le_of_ble_eq_true rfl) rfl ?_
  refine g_aload_n (pc := 2) dX12_sends_2 1 rfl ?_
  refine g_getr (pc := 3) cl12 (Nat.le_of_ble_eq_true rfl) fk1552 (fun _ _ _ => rfl) dX12_sends_3 (fun x4 => ?_)
  refine g_iconst (pc := 6) dX12_sends_6 ci_0 ?_
  refine g_iald (pc := 7) dX12_sends_7 (fun x5 => ?_)
  refine g_istore (pc := 8) (lv' := [(4, .int x5), (3, .int (0 : Int32)), (0, .ref (e_z E + x1)), (1, .int x2), (2, .int x3)]) dX12_sends_8 (Nat.le_of_ble_eq_true rfl) rfl ?_
  refine g_join (fun k => ∀ (x6 : Int32) (h1 : aH), J_X12_sends l E n0 m0 39 [(0, .ref (e_z E + x1)), (1, .int x2), (2, .int x3), (3, .int x6)] [] h1 (k x6 h1)) (fun x6 h1 => ?_) (fun k39 hk39 => ?_)
  · refine g_aload_n (pc := 39) dX12_sends_39 0 rfl ?_
    refine g_getr (pc := 40) cl12 (Nat.le_of_ble_eq_true rfl) fk1552 (fun _ _ _ => rfl) dX12_sends_40 (fun x7 => ?_)
    refine g_bipush (pc := 43) dX12_sends_43 cb_14 ?_
    refine g_iload_n (pc := 45) dX12_sends_45 1 rfl ?_
    refine g_iadd (pc := 46) dX12_sends_46 ?_
    refine g_iload_n (pc := 47) dX12_sends_47 2 rfl ?_
    refine g_iast (pc := 48) dX12_sends_48 (fun h2 => ?_)
    refine g_aload_n (pc := 49) dX12_sends_49 0 rfl ?_
    refine g_getr (pc := 50) cl12 (Nat.le_of_ble_eq_true rfl) fk1552 (fun _ _ _ => rfl) dX12_sends_50 (fun x8 => ?_)
    refine g_bipush (pc := 53) dX12_sends_53 cb_38 ?_
    refine g_iload_n (pc := 55) dX12_sends_55 1 rfl ?_
    refine g_iadd (pc := 56) dX12_sends_56 ?_
    refine g_topi (fun x9 => ?_)
    refine g_dup2 (pc := 57) rfl rfl dX12_sends_57 ?_
    refine g_iald (pc := 58) dX12_sends_58 (fun x10 => ?_)
    refine g_iload_n (pc := 59) dX12_sends_59 3 rfl ?_
    refine g_iadd (pc := 60) dX12_sends_60 ?_
    refine g_iast (pc := 61) dX12_sends_61 (fun h3 => ?_)
    refine g_iload_n (pc := 62) dX12_sends_62 3 rfl ?_
    exact g_ret (pc := 63) rfl (isRet_i _) dX12_sends_63 rfl
  refine g_lv [2, 3, 4, 1, 0] rfl ?_
  refine g_loop2 (F := (m_X12_sends_L10 x1 x3 k39)) (fun x11 x12 => [(0, .ref (e_z E + x1)), (1, .int x2), (2, .int x3), (3, .int x11), (4, .int x12)]) (fun r10 hr10 x11 x12 h4 => ?_) _ _ _ _
  unfold m_X12_sends_L10
  refine g_iload (pc := 10) dX12_sends_10 4 rfl ?_
  refine g_iload_n (pc := 12) dX12_sends_12 2 rfl ?_
  refine g_icmpge (pc := 13) (tgt := 39) dX12_sends_13 rfl ?_ ?_
  · refine g_iload_n (pc := 16) dX12_sends_16 3 rfl ?_
    refine g_aload_n (pc := 17) dX12_sends_17 0 rfl ?_
    refine g_iload (pc := 18) dX12_sends_18 4 rfl ?_
    refine g_gS (fun hs => ?_)
    refine g_bRi (pc := 20) (c_V cl12 hs (p_X12_isNight hl x1 x12 h4) y_X12_isNight tw1919 dX12_sends_20 rfl (st := [.int x11]) rfl (Nat.le_of_ble_eq_true rfl) (Nat.le_of_ble_eq_true rfl) (Nat.le_of_ble_eq_true rfl)) (fun x13 h5 => ?_)
    refine g_join (fun k => ∀ (x14 : Int32) (h6 : aH), J_X12_sends l E n0 m0 31 [(0, .ref (e_z E + x1)), (1, .int x2), (2, .int x3), (4, .int x12)] [.int x14, .int x11] h6 (k x14 h6)) (fun x14 h6 => ?_) (fun k31 hk31 => ?_)
    · refine g_iadd (pc := 31) dX12_sends_31 ?_
      refine g_topi (fun x15 => ?_)
      refine g_istore_n (pc := 32) (lv' := [(3, .int x15), (0, .ref (e_z E + x1)), (1, .int x2), (2, .int x3), (4, .int x12)]) dX12_sends_32 (Nat.le_of_ble_eq_true rfl) rfl ?_
      refine g_iincN (pc := 33) dX12_sends_33 4 rfl ci_1 (Nat.le_of_ble_eq_true rfl) (fun x16 => ?_)
      refine g_lvr (lv' := [(4, .int x16), (3, .int x15), (0, .ref (e_z E + x1)), (1, .int x2), (2, .int x3)]) rfl ?_
      refine g_goto (pc := 36) (tgt := 10) dX12_sends_36 rfl ?_
      refine g_lv [2, 3, 4, 1, 0] rfl ?_
      exact hr10 x15 x16 h6
    refine g_ifeq (pc := 23) (tgt := 30) dX12_sends_23 rfl ?_ ?_
    · refine g_iconst (pc := 30) dX12_sends_30 ci_1 ?_
      refine g_lv [0, 1, 2, 4] rfl ?_
      exact hk31 (1 : Int32) h5
    · refine g_iconst (pc := 26) dX12_sends_26 ci_2 ?_
      refine g_goto (pc := 27) (tgt := 31) dX12_sends_27 rfl ?_
      refine g_lv [0, 1, 2, 4] rfl ?_
      exact hk31 (2 : Int32) h5
  · refine g_lv [0, 1, 2, 3] rfl ?_
    exact hk39 x11 h4
theorem p_X12_sends {l : Launch} {E : aE} (hl : l.stackTraces = false) (x1 : Nat) (x2 : Int32) (x3 : Int32) (h0 : aH) : MO (fun (v : Int32) => .inl (some (.int v))) l E yX12_sends (.code yX12_sends cX12_sends 5 (some .int)) 1 22 [.ref (e_z E + x1), .int x2, .int x3] h0 (m_X12_sends x1 x2 x3 h0) := g_met hl (by decide +kernel) (Nat.le_of_ble_eq_true rfl) (b_X12_sends hl _ _ x1 x2 x3 h0)
