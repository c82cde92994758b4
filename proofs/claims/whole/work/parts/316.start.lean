/-! the start of the run -/
abbrev GV : Cond := Jvm.Cond.and given_1 narrow_1
theorem gm1 {w : Cond} (h : w ∈ flatC narrow_1_1) : w ∈ flatC GV := List.mem_append_right _ (show w ∈ (flatC narrow_1_1 ++ flatC narrow_1_2) ++ (flatC narrow_1_3 ++ flatC narrow_1_4) from List.mem_append_left _ (List.mem_append_left _ h))
theorem gm2 {w : Cond} (h : w ∈ flatC narrow_1_2) : w ∈ flatC GV := List.mem_append_right _ (show w ∈ (flatC narrow_1_1 ++ flatC narrow_1_2) ++ (flatC narrow_1_3 ++ flatC narrow_1_4) from List.mem_append_left _ (List.mem_append_right _ h))
theorem gm3 {w : Cond} (h : w ∈ flatC narrow_1_3) : w ∈ flatC GV := List.mem_append_right _ (show w ∈ (flatC narrow_1_1 ++ flatC narrow_1_2) ++ (flatC narrow_1_3 ++ flatC narrow_1_4) from List.mem_append_right _ (List.mem_append_left _ h))
theorem gm4 {w : Cond} (h : w ∈ flatC narrow_1_4) : w ∈ flatC GV := List.mem_append_right _ (show w ∈ (flatC narrow_1_1 ++ flatC narrow_1_2) ++ (flatC narrow_1_3 ++ flatC narrow_1_4) from List.mem_append_right _ (List.mem_append_right _ h))
abbrev sT (i : Nat) : Term := .string "BrigadePagers$Reader" (RDL.getD i (0, "")).1
def gvS (i : Nat) : Prop := Cond.exactly (sT i) "java/lang/String" ∈ flatC GV ∧ Cond.eq (.field (sT i) "java/lang/String" "coder" "B") (.int 0) ∈ flatC GV ∧ Cond.arrayOf (.field (sT i) "java/lang/String" "value" "[B") .byte ∈ flatC GV ∧
    Cond.eq (.length (.field (sT i) "java/lang/String" "value" "[B")) (.int (Int32.ofNat (rdb i).length)) ∈ flatC GV ∧ (∀ j, j < (rdb i).length → Cond.eq (.elem (.field (sT i) "java/lang/String" "value" "[B") (.int (Int32.ofNat j))) (.int ((rdb i).getD j 0)) ∈ flatC GV) ∧
    Cond.stringRef "BrigadePagers$Reader" (RDL.getD i (0, "")).1 (RDL.getD i (0, "")).2 ∈ lw_tbl
theorem gs_0 : gvS 0 := ⟨gm1 (List.mem_of_getElem? (i := 230) (by decide +kernel)), gm1 (List.mem_of_getElem? (i := 231) (by decide +kernel)), gm1 (List.mem_of_getElem? (i := 232) (by decide +kernel)), gm1 (List.mem_of_getElem? (i := 233) (by decide +kernel)), (fun j hj => match j, hj with
    | 0, _ => gm1 (List.mem_of_getElem? (i := 234) (by decide +kernel))
    | 1, _ => gm1 (List.mem_of_getElem? (i := 235) (by decide +kernel))
    | 2, _ => gm1 (List.mem_of_getElem? (i := 236) (by decide +kernel))
    | 3, _ => gm1 (List.mem_of_getElem? (i := 237) (by decide +kernel))
    | 4, _ => gm1 (List.mem_of_getElem? (i := 238) (by decide +kernel))
    | n + 5, h => absurd (show n + 5 < 5 from h) (by omega)), tq3 (i := 194) (by decide +kernel)⟩
theorem gs_1 : gvS 1 := ⟨gm1 (List.mem_of_getElem? (i := 239) (by decide +kernel)), gm1 (List.mem_of_getElem? (i := 240) (by decide +kernel)), gm1 (List.mem_of_getElem? (i := 241) (by decide +kernel)), gm1 (List.mem_of_getElem? (i := 242) (by decide +kernel)), (fun j hj => match j, hj with
    | 0, _ => gm1 (List.mem_of_getElem? (i := 243) (by decide +kernel))
    | 1, _ => gm1 (List.mem_of_getElem? (i := 244) (by decide +kernel))
    | 2, _ => gm1 (List.mem_of_getElem? (i := 245) (by decide +kernel))
    | 3, _ => gm1 (List.mem_of_getElem? (i := 246) (by decide +kernel))
    | 4, _ => gm1 (List.mem_of_getElem? (i := 247) (by decide +kernel))
    | 5, _ => gm1 (List.mem_of_getElem? (i := 248) (by decide +kernel))
    | n + 6, h => absurd (show n + 6 < 6 from h) (by omega)), tq4 (i := 31) (by decide +kernel)⟩
theorem gs_2 : gvS 2 := ⟨gm1 (List.mem_of_getElem? (i := 249) (by decide +kernel)), gm1 (List.mem_of_getElem? (i := 250) (by decide +kernel)), gm1 (List.mem_of_getElem? (i := 251) (by decide +kernel)), gm1 (List.mem_of_getElem? (i := 252) (by decide +kernel)), (fun j hj => match j, hj with
    | 0, _ => gm1 (List.mem_of_getElem? (i := 253) (by decide +kernel))
    | 1, _ => gm1 (List.mem_of_getElem? (i := 254) (by decide +kernel))
    | 2, _ => gm1 (List.mem_of_getElem? (i := 255) (by decide +kernel))
    | 3, _ => gm1 (List.mem_of_getElem? (i := 256) (by decide +kernel))
    | 4, _ => gm1 (List.mem_of_getElem? (i := 257) (by decide +kernel))
    | n + 5, h => absurd (show n + 5 < 5 from h) (by omega)), tq4 (i := 32) (by decide +kernel)⟩
theorem gs_3 : gvS 3 := ⟨gm1 (List.mem_of_getElem? (i := 258) (by decide +kernel)), gm1 (List.mem_of_getElem? (i := 259) (by decide +kernel)), gm1 (List.mem_of_getElem? (i := 260) (by decide +kernel)), gm1 (List.mem_of_getElem? (i := 261) (by decide +kernel)), (fun j hj => match j, hj with
    | 0, _ => gm1 (List.mem_of_getElem? (i := 262) (by decide +kernel))
    | 1, _ => gm1 (List.mem_of_getElem? (i := 263) (by decide +kernel))
    | 2, _ => gm1 (List.mem_of_getElem? (i := 264) (by decide +kernel))
    | 3, _ => gm1 (List.mem_of_getElem? (i := 265) (by decide +kernel))
    | 4, _ => gm1 (List.mem_of_getElem? (i := 266) (by decide +kernel))
    | n + 5, h => absurd (show n + 5 < 5 from h) (by omega)), tq4 (i := 33) (by decide +kernel)⟩
theorem gs_4 : gvS 4 := ⟨gm1 (List.mem_of_getElem? (i := 267) (by decide +kernel)), gm1 (List.mem_of_getElem? (i := 268) (by decide +kernel)), gm1 (List.mem_of_getElem? (i := 269) (by decide +kernel)), gm1 (List.mem_of_getElem? (i := 270) (by decide +kernel)), (fun j hj => match j, hj with
    | 0, _ => gm1 (List.mem_of_getElem? (i := 271) (by decide +kernel))
    | 1, _ => gm1 (List.mem_of_getElem? (i := 272) (by decide +kernel))
    | 2, _ => gm1 (List.mem_of_getElem? (i := 273) (by decide +kernel))
    | 3, _ => gm1 (List.mem_of_getElem? (i := 274) (by decide +kernel))
    | 4, _ => gm1 (List.mem_of_getElem? (i := 275) (by decide +kernel))
    | 5, _ => gm1 (List.mem_of_getElem? (i := 276) (by decide +kernel))
    | n + 6, h => absurd (show n + 6 < 6 from h) (by omega)), tq4 (i := 34) (by decide +kernel)⟩
theorem gs_5 : gvS 5 := ⟨gm1 (List.mem_of_getElem? (i := 277) (by decide +kernel)), gm1 (List.mem_of_getElem? (i := 278) (by decide +kernel)), gm1 (List.mem_of_getElem? (i := 279) (by decide +kernel)), gm1 (List.mem_of_getElem? (i := 280) (by decide +kernel)), (fun j hj => match j, hj with
    | 0, _ => gm1 (List.mem_of_getElem? (i := 281) (by decide +kernel))
    | 1, _ => gm1 (List.mem_of_getElem? (i := 282) (by decide +kernel))
    | 2, _ => gm1 (List.mem_of_getElem? (i := 283) (by decide +kernel))
    | 3, _ => gm1 (List.mem_of_getElem? (i := 284) (by decide +kernel))
    | n + 4, h => absurd (show n + 4 < 4 from h) (by omega)), tq4 (i := 35) (by decide +kernel)⟩
theorem gs_6 : gvS 6 := ⟨gm1 (List.mem_of_getElem? (i := 285) (by decide +kernel)), gm1 (List.mem_of_getElem? (i := 286) (by decide +kernel)), gm1 (List.mem_of_getElem? (i := 287) (by decide +kernel)), gm1 (List.mem_of_getElem? (i := 288) (by decide +kernel)), (fun j hj => match j, hj with
    | 0, _ => gm1 (List.mem_of_getElem? (i := 289) (by decide +kernel))
    | 1, _ => gm1 (List.mem_of_getElem? (i := 290) (by decide +kernel))
    | 2, _ => gm1 (List.mem_of_getElem? (i := 291) (by decide +kernel))
    | 3, _ => gm1 (List.mem_of_getElem? (i := 292) (by decide +kernel))
    | 4, _ => gm1 (List.mem_of_getElem? (i := 293) (by decide +kernel))
    | n + 5, h => absurd (show n + 5 < 5 from h) (by omega)), tq4 (i := 69) (by decide +kernel)⟩
theorem gs_7 : gvS 7 := ⟨gm1 (List.mem_of_getElem? (i := 294) (by decide +kernel)), gm1 (List.mem_of_getElem? (i := 295) (by decide +kernel)), gm1 (List.mem_of_getElem? (i := 296) (by decide +kernel)), gm1 (List.mem_of_getElem? (i := 297) (by decide +kernel)), (fun j hj => match j, hj with
    | 0, _ => gm1 (List.mem_of_getElem? (i := 298) (by decide +kernel))
    | 1, _ => gm1 (List.mem_of_getElem? (i := 299) (by decide +kernel))
    | 2, _ => gm1 (List.mem_of_getElem? (i := 300) (by decide +kernel))
    | 3, _ => gm1 (List.mem_of_getElem? (i := 301) (by decide +kernel))
    | 4, _ => gm1 (List.mem_of_getElem? (i := 302) (by decide +kernel))
    | 5, _ => gm1 (List.mem_of_getElem? (i := 303) (by decide +kernel))
    | n + 6, h => absurd (show n + 6 < 6 from h) (by omega)), tq4 (i := 70) (by decide +kernel)⟩
theorem gs_8 : gvS 8 := ⟨gm1 (List.mem_of_getElem? (i := 304) (by decide +kernel)), gm1 (List.mem_of_getElem? (i := 305) (by decide +kernel)), gm1 (List.mem_of_getElem? (i := 306) (by decide +kernel)), gm1 (List.mem_of_getElem? (i := 307) (by decide +kernel)), (fun j hj => match j, hj with
    | 0, _ => gm1 (List.mem_of_getElem? (i := 308) (by decide +kernel))
    | 1, _ => gm1 (List.mem_of_getElem? (i := 309) (by decide +kernel))
    | 2, _ => gm1 (List.mem_of_getElem? (i := 310) (by decide +kernel))
    | 3, _ => gm1 (List.mem_of_getElem? (i := 311) (by decide +kernel))
    | 4, _ => gm1 (List.mem_of_getElem? (i := 312) (by decide +kernel))
    | n + 5, h => absurd (show n + 5 < 5 from h) (by omega)), tq4 (i := 71) (by decide +kernel)⟩
theorem gs_9 : gvS 9 := ⟨gm1 (List.mem_of_getElem? (i := 313) (by decide +kernel)), gm1 (List.mem_of_getElem? (i := 314) (by decide +kernel)), gm1 (List.mem_of_getElem? (i := 315) (by decide +kernel)), gm1 (List.mem_of_getElem? (i := 316) (by decide +kernel)), (fun j hj => match j, hj with
    | 0, _ => gm1 (List.mem_of_getElem? (i := 317) (by decide +kernel))
    | 1, _ => gm1 (List.mem_of_getElem? (i := 318) (by decide +kernel))
    | 2, _ => gm1 (List.mem_of_getElem? (i := 319) (by decide +kernel))
    | 3, _ => gm1 (List.mem_of_getElem? (i := 320) (by decide +kernel))
    | 4, _ => gm1 (List.mem_of_getElem? (i := 321) (by decide +kernel))
    | n + 5, h => absurd (show n + 5 < 5 from h) (by omega)), tq4 (i := 72) (by decide +kernel)⟩
theorem gs_10 : gvS 10 := ⟨gm1 (List.mem_of_getElem? (i := 322) (by decide +kernel)), gm1 (List.mem_of_getElem? (i := 323) (by decide +kernel)), gm1 (List.mem_of_getElem? (i := 324) (by decide +kernel)), gm1 (List.mem_of_getElem? (i := 325) (by decide +kernel)), (fun j hj => match j, hj with
    | 0, _ => gm1 (List.mem_of_getElem? (i := 326) (by decide +kernel))
    | 1, _ => gm1 (List.mem_of_getElem? (i := 327) (by decide +kernel))
    | 2, _ => gm1 (List.mem_of_getElem? (i := 328) (by decide +kernel))
    | n + 3, h => absurd (show n + 3 < 3 from h) (by omega)), tq4 (i := 97) (by decide +kernel)⟩
theorem gv_str : ∀ i, i < 11 → gvS i := fun i hi => match i, hi with
  | 0, _ => gs_0
  | 1, _ => gs_1
  | 2, _ => gs_2
  | 3, _ => gs_3
  | 4, _ => gs_4
  | 5, _ => gs_5
  | 6, _ => gs_6
  | 7, _ => gs_7
  | 8, _ => gs_8
  | 9, _ => gs_9
  | 10, _ => gs_10
  | n + 11, h => absurd (show n + 11 < 11 from h) (by omega)
theorem gt_0 : Cond.exactly (.string "BrigadePagers" 76) "java/lang/String" ∈ flatC GV ∧ Cond.stringRef "BrigadePagers" 76 "the text buffer has no room for 20 bytes more" ∈ lw_tbl := ⟨gm1 (List.mem_of_getElem? (i := 163) (by decide +kernel)), tq3 (i := 104) (by decide +kernel)⟩
theorem gt_1 : Cond.exactly (.string "BrigadePagers" 87) "java/lang/String" ∈ flatC GV ∧ Cond.stringRef "BrigadePagers" 87 "no such length" ∈ lw_tbl := ⟨gm1 (List.mem_of_getElem? (i := 212) (by decide +kernel)), tq3 (i := 151) (by decide +kernel)⟩
theorem gt_2 : Cond.exactly (.string "BrigadePagers" 96) "java/lang/String" ∈ flatC GV ∧ Cond.stringRef "BrigadePagers" 96 "the text has an error" ∈ lw_tbl := ⟨gm1 (List.mem_of_getElem? (i := 329) (by decide +kernel)), tq4 (i := 119) (by decide +kernel)⟩
theorem gt_3 : Cond.exactly (.string "BrigadePagers" 118) "java/lang/String" ∈ flatC GV ∧ Cond.stringRef "BrigadePagers" 118 "no such sort" ∈ lw_tbl := ⟨gm1 (List.mem_of_getElem? (i := 354) (by decide +kernel)), tq4 (i := 153) (by decide +kernel)⟩
theorem gt_4 : Cond.exactly (.string "BrigadePagers" 128) "java/lang/String" ∈ flatC GV ∧ Cond.stringRef "BrigadePagers" 128 "nothing has this name" ∈ lw_tbl := ⟨gm1 (List.mem_of_getElem? (i := 370) (by decide +kernel)), tq4 (i := 165) (by decide +kernel)⟩
theorem gt_5 : Cond.exactly (.string "BrigadePagers" 147) "java/lang/String" ∈ flatC GV ∧ Cond.stringRef "BrigadePagers" 147 "no such span of time" ∈ lw_tbl := ⟨gm1 (List.mem_of_getElem? (i := 395) (by decide +kernel)), tq4 (i := 187) (by decide +kernel)⟩
theorem gt_6 : Cond.exactly (.string "BrigadePagers" 412) "java/lang/String" ∈ flatC GV ∧ Cond.stringRef "BrigadePagers" 412 "no such person" ∈ lw_tbl := ⟨gm2 (List.mem_of_getElem? (i := 19) (by decide +kernel)), tq4 (i := 209) (by decide +kernel)⟩
theorem gt_7 : Cond.exactly (.string "BrigadePagers" 167) "java/lang/String" ∈ flatC GV ∧ Cond.stringRef "BrigadePagers" 167 "minutes are 0 to 1440" ∈ lw_tbl := ⟨gm2 (List.mem_of_getElem? (i := 37) (by decide +kernel)), tq4 (i := 228) (by decide +kernel)⟩
theorem gt_8 : Cond.exactly (.string "BrigadePagers" 175) "java/lang/String" ∈ flatC GV ∧ Cond.stringRef "BrigadePagers" 175 "the person stays tired" ∈ lw_tbl := ⟨gm2 (List.mem_of_getElem? (i := 62) (by decide +kernel)), tq5 (i := 11) (by decide +kernel)⟩
theorem gt_9 : Cond.exactly (.string "BrigadePagers" 414) "java/lang/String" ∈ flatC GV ∧ Cond.stringRef "BrigadePagers" 414 "they are the same person" ∈ lw_tbl := ⟨gm2 (List.mem_of_getElem? (i := 88) (by decide +kernel)), tq5 (i := 45) (by decide +kernel)⟩
theorem gt_10 : Cond.exactly (.string "BrigadePagers" 416) "java/lang/String" ∈ flatC GV ∧ Cond.stringRef "BrigadePagers" 416 "no such pager" ∈ lw_tbl := ⟨gm2 (List.mem_of_getElem? (i := 116) (by decide +kernel)), tq5 (i := 70) (by decide +kernel)⟩
theorem gt_11 : Cond.exactly (.string "BrigadePagers" 202) "java/lang/String" ∈ flatC GV ∧ Cond.stringRef "BrigadePagers" 202 "the chain has no such person" ∈ lw_tbl := ⟨gm2 (List.mem_of_getElem? (i := 133) (by decide +kernel)), tq5 (i := 71) (by decide +kernel)⟩
theorem gt_12 : Cond.exactly (.string "BrigadePagers" 427) "java/lang/String" ∈ flatC GV ∧ Cond.stringRef "BrigadePagers" 427 "no such place" ∈ lw_tbl := ⟨gm2 (List.mem_of_getElem? (i := 165) (by decide +kernel)), tq5 (i := 113) (by decide +kernel)⟩
theorem gt_13 : Cond.exactly (.string "BrigadePagers" 216) "java/lang/String" ∈ flatC GV ∧ Cond.stringRef "BrigadePagers" 216 "time is past, or too late" ∈ lw_tbl := ⟨gm2 (List.mem_of_getElem? (i := 182) (by decide +kernel)), tq5 (i := 121) (by decide +kernel)⟩
theorem gt_14 : Cond.exactly (.string "BrigadePagers" 221) "java/lang/String" ∈ flatC GV ∧ Cond.stringRef "BrigadePagers" 221 "minutes are 1 to 1440" ∈ lw_tbl := ⟨gm2 (List.mem_of_getElem? (i := 211) (by decide +kernel)), tq5 (i := 133) (by decide +kernel)⟩
theorem gt_15 : Cond.exactly (.string "BrigadePagers" 230) "java/lang/String" ∈ flatC GV ∧ Cond.stringRef "BrigadePagers" 230 "the pager cannot come to the person" ∈ lw_tbl := ⟨gm2 (List.mem_of_getElem? (i := 236) (by decide +kernel)), tq5 (i := 171) (by decide +kernel)⟩
theorem gt_16 : Cond.exactly (.string "BrigadePagers" 432) "java/lang/String" ∈ flatC GV ∧ Cond.stringRef "BrigadePagers" 432 "no such engine" ∈ lw_tbl := ⟨gm2 (List.mem_of_getElem? (i := 275) (by decide +kernel)), tq5 (i := 183) (by decide +kernel)⟩
theorem gt_17 : Cond.exactly (.string "BrigadePagers" 445) "java/lang/String" ∈ flatC GV ∧ Cond.stringRef "BrigadePagers" 445 "no such call" ∈ lw_tbl := ⟨gm2 (List.mem_of_getElem? (i := 293) (by decide +kernel)), tq5 (i := 199) (by decide +kernel)⟩
theorem gt_18 : Cond.exactly (.string "BrigadePagers" 447) "java/lang/String" ∈ flatC GV ∧ Cond.stringRef "BrigadePagers" 447 "no such engine left" ∈ lw_tbl := ⟨gm2 (List.mem_of_getElem? (i := 309) (by decide +kernel)), tq5 (i := 233) (by decide +kernel)⟩
theorem gt_19 : Cond.exactly (.string "BrigadePagers" 275) "java/lang/String" ∈ flatC GV ∧ Cond.stringRef "BrigadePagers" 275 "the crew has no such member" ∈ lw_tbl := ⟨gm2 (List.mem_of_getElem? (i := 332) (by decide +kernel)), tq6 (i := 11) (by decide +kernel)⟩
theorem gt_20 : Cond.exactly (.string "BrigadePagers" 437) "java/lang/String" ∈ flatC GV ∧ Cond.stringRef "BrigadePagers" 437 "no such kind" ∈ lw_tbl := ⟨gm2 (List.mem_of_getElem? (i := 363) (by decide +kernel)), tq6 (i := 23) (by decide +kernel)⟩
theorem gt_21 : Cond.exactly (.string "BrigadePagers" 441) "java/lang/String" ∈ flatC GV ∧ Cond.stringRef "BrigadePagers" 441 "the kind has no such engine" ∈ lw_tbl := ⟨gm2 (List.mem_of_getElem? (i := 379) (by decide +kernel)), tq6 (i := 80) (by decide +kernel)⟩
theorem gt_22 : Cond.exactly (.string "BrigadePagers" 443) "java/lang/String" ∈ flatC GV ∧ Cond.stringRef "BrigadePagers" 443 "the engine would not leave" ∈ lw_tbl := ⟨gm3 (List.mem_of_getElem? (i := 10) (by decide +kernel)), tq6 (i := 92) (by decide +kernel)⟩
theorem gt_23 : Cond.exactly (.string "BrigadePagers" 316) "java/lang/String" ∈ flatC GV ∧ Cond.stringRef "BrigadePagers" 316 "no such post" ∈ lw_tbl := ⟨gm3 (List.mem_of_getElem? (i := 40) (by decide +kernel)), tq6 (i := 100) (by decide +kernel)⟩
theorem gt_24 : Cond.exactly (.string "BrigadePagers" 336) "java/lang/String" ∈ flatC GV ∧ Cond.stringRef "BrigadePagers" 336 "the call would not be answered within 48 hours" ∈ lw_tbl := ⟨gm3 (List.mem_of_getElem? (i := 56) (by decide +kernel)), tq6 (i := 175) (by decide +kernel)⟩
theorem gt_25 : Cond.exactly (.string "BrigadePagers" 341) "java/lang/String" ∈ flatC GV ∧ Cond.stringRef "BrigadePagers" 341 "the call would be answered without a hand-on" ∈ lw_tbl := ⟨gm3 (List.mem_of_getElem? (i := 106) (by decide +kernel)), tq6 (i := 187) (by decide +kernel)⟩
theorem gt_26 : Cond.exactly (.string "BrigadePagers" 353) "java/lang/String" ∈ flatC GV ∧ Cond.stringRef "BrigadePagers" 353 "no hand-on helps" ∈ lw_tbl := ⟨gm3 (List.mem_of_getElem? (i := 154) (by decide +kernel)), tq6 (i := 196) (by decide +kernel)⟩
theorem gt_27 : Cond.exactly (.string "BrigadePagers" 355) "java/lang/String" ∈ flatC GV ∧ Cond.stringRef "BrigadePagers" 355 "there are 16 calls already" ∈ lw_tbl := ⟨gm3 (List.mem_of_getElem? (i := 174) (by decide +kernel)), tq6 (i := 211) (by decide +kernel)⟩
theorem gt_28 : Cond.exactly (.string "BrigadePagers" 363) "java/lang/String" ∈ flatC GV ∧ Cond.stringRef "BrigadePagers" 363 "there is a reason against the hand-on" ∈ lw_tbl := ⟨gm3 (List.mem_of_getElem? (i := 204) (by decide +kernel)), tq7 (i := 18) (by decide +kernel)⟩
theorem gt_29 : Cond.exactly (.string "BrigadePagers" 365) "java/lang/String" ∈ flatC GV ∧ Cond.stringRef "BrigadePagers" 365 "the pager has no hand-on" ∈ lw_tbl := ⟨gm3 (List.mem_of_getElem? (i := 245) (by decide +kernel)), tq7 (i := 26) (by decide +kernel)⟩
theorem gt_30 : Cond.exactly (.string "BrigadePagers" 367) "java/lang/String" ∈ flatC GV ∧ Cond.stringRef "BrigadePagers" 367 "the time would be too late" ∈ lw_tbl := ⟨gm3 (List.mem_of_getElem? (i := 273) (by decide +kernel)), tq7 (i := 34) (by decide +kernel)⟩
theorem gt_31 : Cond.exactly (.string "BrigadePagers" 369) "java/lang/String" ∈ flatC GV ∧ Cond.stringRef "BrigadePagers" 369 "they are the same place" ∈ lw_tbl := ⟨gm3 (List.mem_of_getElem? (i := 303) (by decide +kernel)), tq7 (i := 42) (by decide +kernel)⟩
theorem gt_32 : Cond.exactly (.string "BrigadePagers" 374) "java/lang/String" ∈ flatC GV ∧ Cond.stringRef "BrigadePagers" 374 "the present place stays" ∈ lw_tbl := ⟨gm3 (List.mem_of_getElem? (i := 330) (by decide +kernel)), tq7 (i := 44) (by decide +kernel)⟩
theorem gt_33 : Cond.exactly (.string "BrigadePagers" 384) "java/lang/String" ∈ flatC GV ∧ Cond.stringRef "BrigadePagers" 384 "the engine is out" ∈ lw_tbl := ⟨gm3 (List.mem_of_getElem? (i := 357) (by decide +kernel)), tq7 (i := 60) (by decide +kernel)⟩
theorem gt_34 : Cond.exactly (.string "BrigadePagers" 389) "java/lang/String" ∈ flatC GV ∧ Cond.stringRef "BrigadePagers" 389 "a trust is 0 to 9" ∈ lw_tbl := ⟨gm3 (List.mem_of_getElem? (i := 378) (by decide +kernel)), tq7 (i := 68) (by decide +kernel)⟩
theorem gt_35 : Cond.exactly (.string "BrigadePagers" 394) "java/lang/String" ∈ flatC GV ∧ Cond.stringRef "BrigadePagers" 394 "there is no change to undo" ∈ lw_tbl := ⟨gm3 (List.mem_of_getElem? (i := 399) (by decide +kernel)), tq7 (i := 76) (by decide +kernel)⟩
theorem gt_36 : Cond.exactly (.string "BrigadePagers" 449) "java/lang/String" ∈ flatC GV ∧ Cond.stringRef "BrigadePagers" 449 "no such slot" ∈ lw_tbl := ⟨gm4 (List.mem_of_getElem? (i := 29) (by decide +kernel)), tq7 (i := 92) (by decide +kernel)⟩
theorem gt_37 : Cond.exactly (.string "BrigadePagers" 410) "java/lang/String" ∈ flatC GV ∧ Cond.stringRef "BrigadePagers" 410 "nothing is saved in the slot" ∈ lw_tbl := ⟨gm4 (List.mem_of_getElem? (i := 45) (by decide +kernel)), tq7 (i := 100) (by decide +kernel)⟩
theorem gv_txl : ∀ q ∈ TXL, Cond.exactly (.string q.1 q.2.1) "java/lang/String" ∈ flatC GV ∧ Cond.stringRef q.1 q.2.1 q.2.2 ∈ lw_tbl := List.forall_mem_cons.mpr ⟨gt_0, List.forall_mem_cons.mpr ⟨gt_1, List.forall_mem_cons.mpr ⟨gt_2, List.forall_mem_cons.mpr ⟨gt_3, List.forall_mem_cons.mpr ⟨gt_4, List.forall_mem_cons.mpr ⟨gt_5, List.forall_mem_cons.mpr ⟨gt_6, List.forall_mem_cons.mpr ⟨gt_7, List.forall_mem_cons.mpr ⟨gt_8, List.forall_mem_cons.mpr ⟨gt_9, List.forall_mem_cons.mpr ⟨gt_10, List.forall_mem_cons.mpr ⟨gt_11, List.forall_mem_cons.mpr ⟨gt_12, List.forall_mem_cons.mpr ⟨gt_13, List.forall_mem_cons.mpr ⟨gt_14, List.forall_mem_cons.mpr ⟨gt_15, List.forall_mem_cons.mpr ⟨gt_16, List.forall_mem_cons.mpr ⟨gt_17, List.forall_mem_cons.mpr ⟨gt_18, List.forall_mem_cons.mpr ⟨gt_19, List.forall_mem_cons.mpr ⟨gt_20, List.forall_mem_cons.mpr ⟨gt_21, List.forall_mem_cons.mpr ⟨gt_22, List.forall_mem_cons.mpr ⟨gt_23, List.forall_mem_cons.mpr ⟨gt_24, List.forall_mem_cons.mpr ⟨gt_25, List.forall_mem_cons.mpr ⟨gt_26, List.forall_mem_cons.mpr ⟨gt_27, List.forall_mem_cons.mpr ⟨gt_28, List.forall_mem_cons.mpr ⟨gt_29, List.forall_mem_cons.mpr ⟨gt_30, List.forall_mem_cons.mpr ⟨gt_31, List.forall_mem_cons.mpr ⟨gt_32, List.forall_mem_cons.mpr ⟨gt_33, List.forall_mem_cons.mpr ⟨gt_34, List.forall_mem_cons.mpr ⟨gt_35, List.forall_mem_cons.mpr ⟨gt_36, List.forall_mem_cons.mpr ⟨gt_37, fun _ h => absurd h List.not_mem_nil⟩⟩⟩⟩⟩⟩⟩⟩⟩⟩⟩⟩⟩⟩⟩⟩⟩⟩⟩⟩⟩⟩⟩⟩⟩⟩⟩⟩⟩⟩⟩⟩⟩⟩⟩⟩⟩⟩
theorem gv_aol : ∀ C ∈ AOL, Cond.arrayOver (.object C) ∈ lw_tbl := by decide +kernel
theorem gn_0 : Cond.not (.castable "java/util/NoSuchElementException" "java/lang/IllegalArgumentException") ∈ flatC GV := gm1 (List.mem_of_getElem? (i := 56) (by decide +kernel))
theorem gn_1 : Cond.not (.castable "java/lang/IllegalArgumentException" "java/lang/IndexOutOfBoundsException") ∈ flatC GV := gm1 (List.mem_of_getElem? (i := 39) (by decide +kernel))
theorem gn_2 : Cond.not (.castable "java/util/NoSuchElementException" "java/lang/IndexOutOfBoundsException") ∈ flatC GV := gm1 (List.mem_of_getElem? (i := 40) (by decide +kernel))
theorem gn_3 : Cond.not (.castable "java/lang/IllegalStateException" "java/lang/IndexOutOfBoundsException") ∈ flatC GV := gm1 (List.mem_of_getElem? (i := 38) (by decide +kernel))
theorem gn_4 : Cond.not (.castable "java/util/NoSuchElementException" "java/lang/IllegalStateException") ∈ flatC GV := gm1 (List.mem_of_getElem? (i := 24) (by decide +kernel))
theorem gn_5 : Cond.not (.castable "java/lang/IllegalStateException" "java/lang/IllegalArgumentException") ∈ flatC GV := gm1 (List.mem_of_getElem? (i := 54) (by decide +kernel))
theorem gv_ncl : ∀ q ∈ NCL, Cond.not (.castable q.1 q.2) ∈ flatC GV := List.forall_mem_cons.mpr ⟨gn_0, List.forall_mem_cons.mpr ⟨gn_1, List.forall_mem_cons.mpr ⟨gn_2, List.forall_mem_cons.mpr ⟨gn_3, List.forall_mem_cons.mpr ⟨gn_4, List.forall_mem_cons.mpr ⟨gn_5, fun _ h => absurd h List.not_mem_nil⟩⟩⟩⟩⟩⟩
theorem gv_arr : ∀ t ∈ ([.int, .byte, .boolean, .long] : List FieldType), Cond.arrayClass t ∈ lw_tbl := by decide +kernel
theorem gv_inst : ∀ (c : Nat) (r : vw_C), CL[c]? = some r → Cond.instantiable r.1 r.2.2 ∈ lw_tbl := by
  have hh : CL.all (fun r => decide (Cond.instantiable r.1 r.2.2 ∈ lw_tbl)) = true := by decide +kernel
  intro c r hc
  exact of_decide_eq_true (List.all_eq_true.mp hh r (List.mem_of_getElem? hc))
theorem gv_st : (Cond.laysStatic Bundle.tN "UNASSIGNED_STACK" Bundle.steD ∈ lw_tbl ∧ Cond.laysStatic Bundle.tN "SUPPRESSED_SENTINEL" Bundle.listD ∈ lw_tbl ∧ Cond.initialized Bundle.tN ∈ lw_tbl) ∧ (Cond.isRef (.static Bundle.tN "UNASSIGNED_STACK" Bundle.steD) ∈ flatC GV ∧ Cond.isRef (.static Bundle.tN "SUPPRESSED_SENTINEL" Bundle.listD) ∈ flatC GV) ∧
    (Cond.laysStatic "java/lang/String" "COMPACT_STRINGS" "Z" ∈ lw_tbl ∧ Cond.initialized "java/lang/String" ∈ lw_tbl ∧ Cond.eq (.static "java/lang/String" "COMPACT_STRINGS" "Z") (.int 1) ∈ flatC GV) ∧
    (Cond.laysStatic "jdk/internal/util/Preconditions" "SIOOBE_FORMATTER" "Ljava/util/function/BiFunction;" ∈ lw_tbl ∧ Cond.initialized "jdk/internal/util/Preconditions" ∈ lw_tbl ∧ Cond.isRef (.static "jdk/internal/util/Preconditions" "SIOOBE_FORMATTER" "Ljava/util/function/BiFunction;") ∈ flatC GV) := ⟨⟨tq3 (i := 89) (by decide +kernel), tq3 (i := 91) (by decide +kernel), tq1 (i := 14) (by decide +kernel)⟩, ⟨gm1 (List.mem_of_getElem? (i := 2) (by decide +kernel)), gm1 (List.mem_of_getElem? (i := 3) (by decide +kernel))⟩, ⟨tq3 (i := 208) (by decide +kernel), tq1 (i := 21) (by decide +kernel), gm1 (List.mem_of_getElem? (i := 4) (by decide +kernel))⟩, tq3 (i := 224) (by decide +kernel), tq1 (i := 23) (by decide +kernel), gm1 (List.mem_of_getElem? (i := 5) (by decide +kernel))⟩
theorem st_str {s : State} {b : Nat} {A : Nat → Prop} (hts : ∀ w ∈ lw_tbl, w.before #[Value.ref b] s = true) (hgv : ∀ w ∈ flatC GV, w.before #[Value.ref b] s = true) (hA : ∀ a : Nat, a < s.heap.size → ¬ A a) :
    ∃ sA sV : Nat → Nat, ∀ i, i < 11 → vk_R "BrigadePagers$Reader" (RDL.getD i (0, "")).1 (RDL.getD i (0, "")).2 (sA i) s ∧ va_O "java/lang/String" (sA i) A s s.heap ∧ va_OF "java/lang/String" "coder" "B" (.int 0) (sA i) A s s.heap ∧ va_OF "java/lang/String" "value" "[B" (.ref (sV i)) (sA i) A s s.heap ∧ va_T .byte (sV i) (rdb i).length (fun j => .int ((rdb i).getD j 0)) A s s.heap := by
  have h0 : ∀ i : Nat, ∃ q : Nat × Nat, i < 11 → vk_R "BrigadePagers$Reader" (RDL.getD i (0, "")).1 (RDL.getD i (0, "")).2 q.1 s ∧ va_O "java/lang/String" q.1 A s s.heap ∧ va_OF "java/lang/String" "coder" "B" (.int 0) q.1 A s s.heap ∧ va_OF "java/lang/String" "value" "[B" (.ref q.2) q.1 A s s.heap ∧ va_T .byte q.2 (rdb i).length (fun j => .int ((rdb i).getD j 0)) A s s.heap := by
    intro i
    by_cases hi : i < 11
    · obtain ⟨m1, m2, m3, m4, m5, m6⟩ := gv_str i hi
      obtain ⟨a, c, cA, kA, q1, q2, q3, q4, q5, q6, -⟩ := Cond.exactly_spec (args := #[Value.ref b]) (first := s) (o := none) (s := s) (idx := []) (t := sT i) (cls := "java/lang/String") (hgv _ m1)
      obtain ⟨t, ht, hT⟩ := va_Tof (f := fun j => .int ((rdb i).getD j 0)) (A := A) (rd_len i hi).2 (hgv _ m3) (va_eqt (hgv _ m4)) (fun j hj => va_eqt (hgv _ (m5 j hj))) hA
      exact ⟨(a, t), fun _ => ⟨vk_R.of (hts _ m6) q1, ⟨cA, q3, q5, by rw [q6]; exact q2, hA a (Array.getElem?_eq_some_iff.mp q3).1⟩, vk_OFof q1 (va_eqt (hgv _ m2)) hA, vk_OFof q1 ht hA, hT⟩⟩
    · exact ⟨(0, 0), fun h => absurd h hi⟩
  obtain ⟨ad, had⟩ := Classical.axiomOfChoice h0
  exact ⟨fun i => (ad i).1, fun i => (ad i).2, fun i hi => had i hi⟩
theorem st_txl {s : State} {b : Nat} (hts : ∀ w ∈ lw_tbl, w.before #[Value.ref b] s = true) (hgv : ∀ w ∈ flatC GV, w.before #[Value.ref b] s = true) (q : String × Nat × String) (hq : q ∈ TXL) : ∃ sa, vk_R q.1 q.2.1 q.2.2 sa s := by
  obtain ⟨m1, m2⟩ := gv_txl q hq
  obtain ⟨a, c, cA, kA, q1, -⟩ := Cond.exactly_spec (args := #[Value.ref b]) (first := s) (o := none) (s := s) (idx := []) (t := .string q.1 q.2.1) (cls := "java/lang/String") (hgv _ m1)
  exact ⟨a, vk_R.of (hts _ m2) q1⟩
theorem st_prim {s : State} {A : Array Value} {ty : FieldType} (h : (Cond.arrayClass ty).before A s = true) : ∃ c : ClassId, ArrOfT s c ty ∧ s.vm.findClass ("[" ++ ty.toString) = some c := by
  obtain ⟨c, k, comp, h1, h2, h3⟩ := Cond.arrayClass_spec h
  exact ⟨c, fun n z => ⟨(fun k h => by cases h), k, h2, comp, h3⟩, h1⟩
theorem st_obj {s : State} {A : Array Value} {C : String} (h : (Cond.arrayOver (.object C)).before A s = true) : ∃ c : ClassId, ArrOfT s c (.object C) ∧ va_RA s c (.object C) := by
  obtain ⟨comp, c, k, h1, h2, h3, h4, h5⟩ := Cond.arrayOver_spec h
  exact ⟨c, fun n z => ⟨(fun k h => by cases h), k, h3, comp, h4⟩, k, comp, h3, h4, h1, h5⟩
theorem st_K {s : State} {b : Nat} (hts : ∀ w ∈ lw_tbl, w.before #[Value.ref b] s = true) : ∃ (D : va_G) (cA : Nat → ClassId), va_K D CL (TYS cA) s := by
  have h1 : ∀ c : Nat, ∃ q : ClassId × (Nat → Nat), ∀ r, CL[c]? = some r → u_Kn s r.1 r.2.1 r.2.2 q.1 q.2 := by
    intro c
    cases hr : CL[c]? with
    | none => exact ⟨((0 : Nat), fun _ => 0), fun r h => nomatch h⟩
    | some r =>
      obtain ⟨cC, iS, hk⟩ := u_known (C := r.1) (T := r.2.1) (N := r.2.2) hts (fun w hw => (CL_in c r hr w hw).1) (hts _ (gv_inst c r hr))
      exact ⟨(cC, iS), fun r' h' => by cases h'; exact hk⟩
  have h2 : ∀ t : Nat, ∃ cA : ClassId, t < 9 → ArrOfT s cA (TYL.getD t .int) ∧ va_RA s cA (TYL.getD t .int) := by
    intro t
    by_cases ht : t < 9
    · match t, ht with
      | 0, _ => exact (st_prim (hts _ (gv_arr .int (by decide)))).elim fun c h => ⟨c, fun _ => h⟩
      | 1, _ => exact (st_prim (hts _ (gv_arr .byte (by decide)))).elim fun c h => ⟨c, fun _ => h⟩
      | 2, _ => exact (st_prim (hts _ (gv_arr .boolean (by decide)))).elim fun c h => ⟨c, fun _ => h⟩
      | 3, _ => exact (st_prim (hts _ (gv_arr .long (by decide)))).elim fun c h => ⟨c, fun _ => h⟩
      | 4, _ => exact (st_obj (hts _ (gv_aol "BrigadePagers$State" (by decide)))).elim fun c h => ⟨c, fun _ => h⟩
      | 5, _ => exact (st_obj (hts _ (gv_aol "BrigadePagers$Person" (by decide)))).elim fun c h => ⟨c, fun _ => h⟩
      | 6, _ => exact (st_obj (hts _ (gv_aol "BrigadePagers$Pager" (by decide)))).elim fun c h => ⟨c, fun _ => h⟩
      | 7, _ => exact (st_obj (hts _ (gv_aol "BrigadePagers$Engine" (by decide)))).elim fun c h => ⟨c, fun _ => h⟩
      | 8, _ => exact (st_obj (hts _ (gv_aol "BrigadePagers$Kind" (by decide)))).elim fun c h => ⟨c, fun _ => h⟩
      | n + 9, h => exact absurd h (by omega)
    · exact ⟨(0 : Nat), fun h => absurd h ht⟩
  obtain ⟨q, hq⟩ := Classical.axiomOfChoice h1
  obtain ⟨cA, hcA⟩ := Classical.axiomOfChoice h2
  refine ⟨(fun c => (q c).1, fun c => (q c).2), cA, fun c r hr => hq c r hr, fun k x hk => ?_⟩
  obtain ⟨hlt, he⟩ := List.getElem?_eq_some_iff.mp hk
  have hlt9 : k < 9 := by simpa [TYS] using hlt
  have hx : x = (cA k, TYL.getD k .int) := by rw [← he]; simp [TYS]
  subst hx
  exact hcA k hlt9
def aH0 : aH := (1, 0, fun _ => 0, fun _ => 0, fun _ _ => 0, fun _ _ => 0, fun _ _ => 0)
theorem HR0 {z : Nat} {D : va_G} {cA : Nat → ClassId} {H : Heap} (hz : H.size = z + 1) : HR z D cA aH0 H :=
  ⟨hz, Nat.one_pos, fun k => ⟨fun h => absurd rfl h, fun t _ h => absurd (show (0 : Nat) = t + 1 from h) (by omega), fun h => absurd (show (0 : Nat) = 4 from h) (by omega), fun t _ _ h => absurd (show (0 : Nat) = t + 1 from h) (by omega), fun c h => absurd (show (0 : Nat) = 10 + c from h) (by omega)⟩⟩
theorem st_WD {E : aE} {s : State} {b : Nat} (hts : ∀ w ∈ lw_tbl, w.before #[Value.ref b] s = true) (hgv : ∀ w ∈ flatC GV, w.before #[Value.ref b] s = true) (hA : ∀ a : Nat, a < s.heap.size → ¬ aA (e_z E) a) (hK : va_K (e_D E) CL (TYS (e_cA E)) s) (hS : ∀ i, i < 11 → sF E i s s.heap) (hT : va_T .int (e_ca E) (e_cs E).length (fun j => .int ((e_cs E).getD j 0)) (aA (e_z E)) s s.heap) : WD E s s.heap := by
  obtain ⟨⟨z1, z2, z3⟩, ⟨z4, z5⟩, ⟨z6, z7, z8⟩, z9, z10, z11⟩ := gv_st
  exact ⟨fun w hw hk => tb_move hk (State.WarmedH.refl s) (hts w hw), hK, vx_Zqof (hts _ z1) (hts _ z3) (hgv _ z4) hA, vx_Zqof (hts _ z2) (hts _ z3) (hgv _ z5) hA, ⟨va_Zof (hts _ z6) (hts _ z7) (va_eqi (hgv _ z8)) hA, vx_Zqof (hts _ z9) (hts _ z10) (hgv _ z11) hA⟩, st_txl hts hgv, hS, fun C hC => va_AO.of (hts _ (gv_aol C hC)), fun q hq => va_Nc.of (hgv _ (gv_ncl q hq)), hT⟩
