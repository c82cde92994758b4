theorem exn : ∀ n ∈ xNS, Bundle.fit n = true := by decide +kernel
theorem exf_IAE : Bundle.fit "java/lang/IllegalArgumentException" = true := by decide +kernel
theorem exi_IAE : xP (.initialized "java/lang/IllegalArgumentException") := ⟨tw25, rfl, rfl⟩
theorem exw_IAE : ∀ w ∈ vx_atS "BrigadePagers" 98 "java/lang/IllegalArgumentException" xNS, xP w := by
  have h : ∀ w ∈ vx_atS "BrigadePagers" 98 "java/lang/IllegalArgumentException" xNS, w ∈ lw_tbl ∧ tb_ok w = true ∧ vx_ot w = true := by decide +kernel
  exact h
theorem exf_IOB : Bundle.fit "java/lang/IndexOutOfBoundsException" = true := by decide +kernel
theorem exi_IOB : xP (.initialized "java/lang/IndexOutOfBoundsException") := ⟨tw18, rfl, rfl⟩
theorem exw_IOB : ∀ w ∈ vx_atS "BrigadePagers" 89 "java/lang/IndexOutOfBoundsException" xNS, xP w := by
  have h : ∀ w ∈ vx_atS "BrigadePagers" 89 "java/lang/IndexOutOfBoundsException" xNS, w ∈ lw_tbl ∧ tb_ok w = true ∧ vx_ot w = true := by decide +kernel
  exact h
theorem exf_ISE : Bundle.fit "java/lang/IllegalStateException" = true := by decide +kernel
theorem exi_ISE : xP (.initialized "java/lang/IllegalStateException") := ⟨tw17, rfl, rfl⟩
theorem exw_ISE : ∀ w ∈ vx_atS "BrigadePagers" 78 "java/lang/IllegalStateException" xNS, xP w := by
  have h : ∀ w ∈ vx_atS "BrigadePagers" 78 "java/lang/IllegalStateException" xNS, w ∈ lw_tbl ∧ tb_ok w = true ∧ vx_ot w = true := by decide +kernel
  exact h
theorem exf_NSE : Bundle.fit "java/util/NoSuchElementException" = true := by decide +kernel
theorem exi_NSE : xP (.initialized "java/util/NoSuchElementException") := ⟨tw27, rfl, rfl⟩
abbrev exc_NSE : ByteArray := prog_33_method_4_code
theorem exd0_NSE : decode exc_NSE 0 = .ok (.aload_n 0, 1) := by decide +kernel
theorem exd1_NSE : decode exc_NSE 1 = .ok (.aload_n 1, 1) := by decide +kernel
theorem exd2_NSE : decode exc_NSE 2 = .ok (.invokespecial 13, 3) := by decide +kernel
theorem exd3_NSE : decode exc_NSE 5 = .ok (.return_, 1) := by decide +kernel
theorem exw_NSE : ∀ w ∈ (xoA "BrigadePagers" 130 "java/util/NoSuchElementException" 13 exc_NSE "java/lang/RuntimeException" ["java/lang/Exception"]).filter vx_no, xP w := by
  have h : ∀ w ∈ (xoA "BrigadePagers" 130 "java/util/NoSuchElementException" 13 exc_NSE "java/lang/RuntimeException" ["java/lang/Exception"]).filter vx_no, w ∈ lw_tbl ∧ tb_ok w = true ∧ vx_ot w = true := by decide +kernel
  exact h
theorem tx_0 : ("BrigadePagers", 76, "the text buffer has no room for 20 bytes more") ∈ TXL := List.mem_of_getElem? (i := 0) rfl
theorem tx_1 : ("BrigadePagers", 87, "no such length") ∈ TXL := List.mem_of_getElem? (i := 1) rfl
theorem tx_2 : ("BrigadePagers", 96, "the text has an error") ∈ TXL := List.mem_of_getElem? (i := 2) rfl
theorem tx_3 : ("BrigadePagers", 118, "no such sort") ∈ TXL := List.mem_of_getElem? (i := 3) rfl
theorem tx_4 : ("BrigadePagers", 128, "nothing has this name") ∈ TXL := List.mem_of_getElem? (i := 4) rfl
theorem tx_5 : ("BrigadePagers", 147, "no such span of time") ∈ TXL := List.mem_of_getElem? (i := 5) rfl
theorem tx_6 : ("BrigadePagers", 412, "no such person") ∈ TXL := List.mem_of_getElem? (i := 6) rfl
theorem tx_7 : ("BrigadePagers", 167, "minutes are 0 to 1440") ∈ TXL := List.mem_of_getElem? (i := 7) rfl
theorem tx_8 : ("BrigadePagers", 175, "the person stays tired") ∈ TXL := List.mem_of_getElem? (i := 8) rfl
theorem tx_9 : ("BrigadePagers", 414, "they are the same person") ∈ TXL := List.mem_of_getElem? (i := 9) rfl
theorem tx_10 : ("BrigadePagers", 416, "no such pager") ∈ TXL := List.mem_of_getElem? (i := 10) rfl
theorem tx_11 : ("BrigadePagers", 202, "the chain has no such person") ∈ TXL := List.mem_of_getElem? (i := 11) rfl
theorem tx_12 : ("BrigadePagers", 427, "no such place") ∈ TXL := List.mem_of_getElem? (i := 12) rfl
theorem tx_13 : ("BrigadePagers", 216, "time is past, or too late") ∈ TXL := List.mem_of_getElem? (i := 13) rfl
theorem tx_14 : ("BrigadePagers", 221, "minutes are 1 to 1440") ∈ TXL := List.mem_of_getElem? (i := 14) rfl
theorem tx_15 : ("BrigadePagers", 230, "the pager cannot come to the person") ∈ TXL := List.mem_of_getElem? (i := 15) rfl
theorem tx_16 : ("BrigadePagers", 432, "no such engine") ∈ TXL := List.mem_of_getElem? (i := 16) rfl
theorem tx_17 : ("BrigadePagers", 445, "no such call") ∈ TXL := List.mem_of_getElem? (i := 17) rfl
theorem tx_18 : ("BrigadePagers", 447, "no such engine left") ∈ TXL := List.mem_of_getElem? (i := 18) rfl
theorem tx_19 : ("BrigadePagers", 275, "the crew has no such member") ∈ TXL := List.mem_of_getElem? (i := 19) rfl
theorem tx_20 : ("BrigadePagers", 437, "no such kind") ∈ TXL := List.mem_of_getElem? (i := 20) rfl
theorem tx_21 : ("BrigadePagers", 441, "the kind has no such engine") ∈ TXL := List.mem_of_getElem? (i := 21) rfl
theorem tx_22 : ("BrigadePagers", 443, "the engine would not leave") ∈ TXL := List.mem_of_getElem? (i := 22) rfl
theorem tx_23 : ("BrigadePagers", 316, "no such post") ∈ TXL := List.mem_of_getElem? (i := 23) rfl
theorem tx_24 : ("BrigadePagers", 336, "the call would not be answered within 48 hours") ∈ TXL := List.mem_of_getElem? (i := 24) rfl
theorem tx_25 : ("BrigadePagers", 341, "the call would be answered without a hand-on") ∈ TXL := List.mem_of_getElem? (i := 25) rfl
theorem tx_26 : ("BrigadePagers", 353, "no hand-on helps") ∈ TXL := List.mem_of_getElem? (i := 26) rfl
theorem tx_27 : ("BrigadePagers", 355, "there are 16 calls already") ∈ TXL := List.mem_of_getElem? (i := 27) rfl
theorem tx_28 : ("BrigadePagers", 363, "there is a reason against the hand-on") ∈ TXL := List.mem_of_getElem? (i := 28) rfl
theorem tx_29 : ("BrigadePagers", 365, "the pager has no hand-on") ∈ TXL := List.mem_of_getElem? (i := 29) rfl
theorem tx_30 : ("BrigadePagers", 367, "the time would be too late") ∈ TXL := List.mem_of_getElem? (i := 30) rfl
theorem tx_31 : ("BrigadePagers", 369, "they are the same place") ∈ TXL := List.mem_of_getElem? (i := 31) rfl
theorem tx_32 : ("BrigadePagers", 374, "the present place stays") ∈ TXL := List.mem_of_getElem? (i := 32) rfl
theorem tx_33 : ("BrigadePagers", 384, "the engine is out") ∈ TXL := List.mem_of_getElem? (i := 33) rfl
theorem tx_34 : ("BrigadePagers", 389, "a trust is 0 to 9") ∈ TXL := List.mem_of_getElem? (i := 34) rfl
theorem tx_35 : ("BrigadePagers", 394, "there is no change to undo") ∈ TXL := List.mem_of_getElem? (i := 35) rfl
theorem tx_36 : ("BrigadePagers", 449, "no such slot") ∈ TXL := List.mem_of_getElem? (i := 36) rfl
theorem tx_37 : ("BrigadePagers", 410, "nothing is saved in the slot") ∈ TXL := List.mem_of_getElem? (i := 37) rfl
