/-! ===== what stands still, at the law's start ===== -/
def znpl : List Nat := [88, 148, 175, 264, 267, 268, 283, 347, 621]
def zrpl : List Nat := [543, 607, 608, 609, 610, 611, 612, 626, 627, 629, 635, 647, 648, 649, 650, 651, 652, 654, 655, 656]
def zN0 : String × Nat × MethodName × String := ("", 0, ⟨"", "", ""⟩, "")
def zR0 : String × Nat × String := ("", 0, "")
theorem znl_len : zNl.length = 9 := rfl
theorem zrl_len : zRl.length = 20 := rfl
theorem znl_ok : ∀ i : Fin 9, lw_tbl[znpl.getD i.val 0]? = some (Cond.methodLinkNest (zNl.getD i.val zN0).1 (zNl.getD i.val zN0).2.1 (zNl.getD i.val zN0).2.2.1 (zNl.getD i.val zN0).2.2.2) := by decide +kernel
theorem zrl_ok : ∀ i : Fin 20, lw_tbl[zrpl.getD i.val 0]? = some (Cond.stringRef (zRl.getD i.val zR0).1 (zRl.getD i.val zR0).2.1 (zRl.getD i.val zR0).2.2) := by decide +kernel
def zFC : List Cond := flatC (Jvm.Cond.and given_1 narrow_1)
def ztm (i : Nat) : Term := .string (zRl.getD i zR0).1 (zRl.getD i zR0).2.1
theorem zf_ex : ∀ i : Fin 20, Cond.exactly (ztm i.val) "java/lang/String" ∈ zFC := by decide +kernel
theorem zf_co : ∀ i : Fin 20, Cond.eq (.field (ztm i.val) "java/lang/String" "coder" "B") (.int 0) ∈ zFC := by decide +kernel
theorem zf_ar : ∀ i : Fin 20, Cond.arrayOf (.field (ztm i.val) "java/lang/String" "value" "[B") .byte ∈ zFC := by decide +kernel
theorem zf_le : ∀ i : Fin 20, Cond.eq (.length (.field (ztm i.val) "java/lang/String" "value" "[B")) (.int (Int32.ofNat (zlen.getD i.val 0))) ∈ zFC := by decide +kernel
theorem zf_el : ∀ i : Fin 20, ∀ j : Fin 6, j.val < zlen.getD i.val 0 → Cond.eq (.elem (.field (ztm i.val) "java/lang/String" "value" "[B") (.int (Int32.ofNat j.val))) (.int ((zbyt.getD i.val []).getD j.val 0)) ∈ zFC := by decide +kernel
theorem zn_0_1 : Cond.not (Cond.eq (ztm 0) (ztm 1)) ∈ zFC := List.mem_of_getElem? (i := 55) (by decide +kernel)
theorem zn_0_2 : Cond.not (Cond.eq (ztm 0) (ztm 2)) ∈ zFC := List.mem_of_getElem? (i := 65) (by decide +kernel)
theorem zn_0_3 : Cond.not (Cond.eq (ztm 0) (ztm 3)) ∈ zFC := List.mem_of_getElem? (i := 75) (by decide +kernel)
theorem zn_0_4 : Cond.not (Cond.eq (ztm 0) (ztm 4)) ∈ zFC := List.mem_of_getElem? (i := 88) (by decide +kernel)
theorem zn_0_5 : Cond.not (Cond.eq (ztm 0) (ztm 5)) ∈ zFC := List.mem_of_getElem? (i := 101) (by decide +kernel)
theorem zn_0_6 : Cond.not (Cond.eq (ztm 0) (ztm 6)) ∈ zFC := List.mem_of_getElem? (i := 112) (by decide +kernel)
theorem zn_0_7 : Cond.not (Cond.eq (ztm 0) (ztm 7)) ∈ zFC := List.mem_of_getElem? (i := 126) (by decide +kernel)
theorem zn_0_8 : Cond.not (Cond.eq (ztm 0) (ztm 8)) ∈ zFC := List.mem_of_getElem? (i := 140) (by decide +kernel)
theorem zn_0_9 : Cond.not (Cond.eq (ztm 0) (ztm 9)) ∈ zFC := List.mem_of_getElem? (i := 156) (by decide +kernel)
theorem zn_0_10 : Cond.not (Cond.eq (ztm 0) (ztm 10)) ∈ zFC := List.mem_of_getElem? (i := 174) (by decide +kernel)
theorem zn_0_11 : Cond.not (Cond.eq (ztm 0) (ztm 11)) ∈ zFC := List.mem_of_getElem? (i := 194) (by decide +kernel)
theorem zn_0_12 : Cond.not (Cond.eq (ztm 0) (ztm 12)) ∈ zFC := List.mem_of_getElem? (i := 215) (by decide +kernel)
theorem zn_0_13 : Cond.not (Cond.eq (ztm 0) (ztm 13)) ∈ zFC := List.mem_of_getElem? (i := 237) (by decide +kernel)
theorem zn_0_14 : Cond.not (Cond.eq (ztm 0) (ztm 14)) ∈ zFC := List.mem_of_getElem? (i := 260) (by decide +kernel)
theorem zn_0_15 : Cond.not (Cond.eq (ztm 0) (ztm 15)) ∈ zFC := List.mem_of_getElem? (i := 284) (by decide +kernel)
theorem zn_0_16 : Cond.not (Cond.eq (ztm 0) (ztm 16)) ∈ zFC := List.mem_of_getElem? (i := 309) (by decide +kernel)
theorem zn_0_17 : Cond.not (Cond.eq (ztm 0) (ztm 17)) ∈ zFC := List.mem_of_getElem? (i := 333) (by decide +kernel)
theorem zn_0_18 : Cond.not (Cond.eq (ztm 0) (ztm 18)) ∈ zFC := List.mem_of_getElem? (i := 359) (by decide +kernel)
theorem zn_0_19 : Cond.not (Cond.eq (ztm 0) (ztm 19)) ∈ zFC := List.mem_of_getElem? (i := 387) (by decide +kernel)
theorem zn_1_2 : Cond.not (Cond.eq (ztm 1) (ztm 2)) ∈ zFC := List.mem_of_getElem? (i := 66) (by decide +kernel)
theorem zn_1_3 : Cond.not (Cond.eq (ztm 1) (ztm 3)) ∈ zFC := List.mem_of_getElem? (i := 76) (by decide +kernel)
theorem zn_1_4 : Cond.not (Cond.eq (ztm 1) (ztm 4)) ∈ zFC := List.mem_of_getElem? (i := 89) (by decide +kernel)
theorem zn_1_5 : Cond.not (Cond.eq (ztm 1) (ztm 5)) ∈ zFC := List.mem_of_getElem? (i := 102) (by decide +kernel)
theorem zn_1_6 : Cond.not (Cond.eq (ztm 1) (ztm 6)) ∈ zFC := List.mem_of_getElem? (i := 113) (by decide +kernel)
theorem zn_1_7 : Cond.not (Cond.eq (ztm 1) (ztm 7)) ∈ zFC := List.mem_of_getElem? (i := 127) (by decide +kernel)
theorem zn_1_8 : Cond.not (Cond.eq (ztm 1) (ztm 8)) ∈ zFC := List.mem_of_getElem? (i := 141) (by decide +kernel)
theorem zn_1_9 : Cond.not (Cond.eq (ztm 1) (ztm 9)) ∈ zFC := List.mem_of_getElem? (i := 157) (by decide +kernel)
theorem zn_1_10 : Cond.not (Cond.eq (ztm 1) (ztm 10)) ∈ zFC := List.mem_of_getElem? (i := 175) (by decide +kernel)
theorem zn_1_11 : Cond.not (Cond.eq (ztm 1) (ztm 11)) ∈ zFC := List.mem_of_getElem? (i := 195) (by decide +kernel)
theorem zn_1_12 : Cond.not (Cond.eq (ztm 1) (ztm 12)) ∈ zFC := List.mem_of_getElem? (i := 216) (by decide +kernel)
theorem zn_1_13 : Cond.not (Cond.eq (ztm 1) (ztm 13)) ∈ zFC := List.mem_of_getElem? (i := 238) (by decide +kernel)
theorem zn_1_14 : Cond.not (Cond.eq (ztm 1) (ztm 14)) ∈ zFC := List.mem_of_getElem? (i := 261) (by decide +kernel)
theorem zn_1_15 : Cond.not (Cond.eq (ztm 1) (ztm 15)) ∈ zFC := List.mem_of_getElem? (i := 285) (by decide +kernel)
theorem zn_1_16 : Cond.not (Cond.eq (ztm 1) (ztm 16)) ∈ zFC := List.mem_of_getElem? (i := 310) (by decide +kernel)
theorem zn_1_17 : Cond.not (Cond.eq (ztm 1) (ztm 17)) ∈ zFC := List.mem_of_getElem? (i := 334) (by decide +kernel)
theorem zn_1_18 : Cond.not (Cond.eq (ztm 1) (ztm 18)) ∈ zFC := List.mem_of_getElem? (i := 360) (by decide +kernel)
theorem zn_1_19 : Cond.not (Cond.eq (ztm 1) (ztm 19)) ∈ zFC := List.mem_of_getElem? (i := 388) (by decide +kernel)
theorem zn_2_3 : Cond.not (Cond.eq (ztm 2) (ztm 3)) ∈ zFC := List.mem_of_getElem? (i := 77) (by decide +kernel)
theorem zn_2_4 : Cond.not (Cond.eq (ztm 2) (ztm 4)) ∈ zFC := List.mem_of_getElem? (i := 90) (by decide +kernel)
theorem zn_2_5 : Cond.not (Cond.eq (ztm 2) (ztm 5)) ∈ zFC := List.mem_of_getElem? (i := 103) (by decide +kernel)
theorem zn_2_6 : Cond.not (Cond.eq (ztm 2) (ztm 6)) ∈ zFC := List.mem_of_getElem? (i := 114) (by decide +kernel)
theorem zn_2_7 : Cond.not (Cond.eq (ztm 2) (ztm 7)) ∈ zFC := List.mem_of_getElem? (i := 128) (by decide +kernel)
theorem zn_2_8 : Cond.not (Cond.eq (ztm 2) (ztm 8)) ∈ zFC := List.mem_of_getElem? (i := 142) (by decide +kernel)
theorem zn_2_9 : Cond.not (Cond.eq (ztm 2) (ztm 9)) ∈ zFC := List.mem_of_getElem? (i := 158) (by decide +kernel)
theorem zn_2_10 : Cond.not (Cond.eq (ztm 2) (ztm 10)) ∈ zFC := List.mem_of_getElem? (i := 176) (by decide +kernel)
theorem zn_2_11 : Cond.not (Cond.eq (ztm 2) (ztm 11)) ∈ zFC := List.mem_of_getElem? (i := 196) (by decide +kernel)
theorem zn_2_12 : Cond.not (Cond.eq (ztm 2) (ztm 12)) ∈ zFC := List.mem_of_getElem? (i := 217) (by decide +kernel)
theorem zn_2_13 : Cond.not (Cond.eq (ztm 2) (ztm 13)) ∈ zFC := List.mem_of_getElem? (i := 239) (by decide +kernel)
theorem zn_2_14 : Cond.not (Cond.eq (ztm 2) (ztm 14)) ∈ zFC := List.mem_of_getElem? (i := 262) (by decide +kernel)
theorem zn_2_15 : Cond.not (Cond.eq (ztm 2) (ztm 15)) ∈ zFC := List.mem_of_getElem? (i := 286) (by decide +kernel)
theorem zn_2_16 : Cond.not (Cond.eq (ztm 2) (ztm 16)) ∈ zFC := List.mem_of_getElem? (i := 311) (by decide +kernel)
theorem zn_2_17 : Cond.not (Cond.eq (ztm 2) (ztm 17)) ∈ zFC := List.mem_of_getElem? (i := 335) (by decide +kernel)
theorem zn_2_18 : Cond.not (Cond.eq (ztm 2) (ztm 18)) ∈ zFC := List.mem_of_getElem? (i := 361) (by decide +kernel)
theorem zn_2_19 : Cond.not (Cond.eq (ztm 2) (ztm 19)) ∈ zFC := List.mem_of_getElem? (i := 389) (by decide +kernel)
theorem zn_3_4 : Cond.not (Cond.eq (ztm 3) (ztm 4)) ∈ zFC := List.mem_of_getElem? (i := 91) (by decide +kernel)
theorem zn_3_5 : Cond.not (Cond.eq (ztm 3) (ztm 5)) ∈ zFC := List.mem_of_getElem? (i := 104) (by decide +kernel)
theorem zn_3_6 : Cond.not (Cond.eq (ztm 3) (ztm 6)) ∈ zFC := List.mem_of_getElem? (i := 115) (by decide +kernel)
theorem zn_3_7 : Cond.not (Cond.eq (ztm 3) (ztm 7)) ∈ zFC := List.mem_of_getElem? (i := 129) (by decide +kernel)
theorem zn_3_8 : Cond.not (Cond.eq (ztm 3) (ztm 8)) ∈ zFC := List.mem_of_getElem? (i := 143) (by decide +kernel)
theorem zn_3_9 : Cond.not (Cond.eq (ztm 3) (ztm 9)) ∈ zFC := List.mem_of_getElem? (i := 159) (by decide +kernel)
theorem zn_3_10 : Cond.not (Cond.eq (ztm 3) (ztm 10)) ∈ zFC := List.mem_of_getElem? (i := 177) (by decide +kernel)
theorem zn_3_11 : Cond.not (Cond.eq (ztm 3) (ztm 11)) ∈ zFC := List.mem_of_getElem? (i := 197) (by decide +kernel)
theorem zn_3_12 : Cond.not (Cond.eq (ztm 3) (ztm 12)) ∈ zFC := List.mem_of_getElem? (i := 218) (by decide +kernel)
theorem zn_3_13 : Cond.not (Cond.eq (ztm 3) (ztm 13)) ∈ zFC := List.mem_of_getElem? (i := 240) (by decide +kernel)
theorem zn_3_14 : Cond.not (Cond.eq (ztm 3) (ztm 14)) ∈ zFC := List.mem_of_getElem? (i := 263) (by decide +kernel)
theorem zn_3_15 : Cond.not (Cond.eq (ztm 3) (ztm 15)) ∈ zFC := List.mem_of_getElem? (i := 287) (by decide +kernel)
theorem zn_3_16 : Cond.not (Cond.eq (ztm 3) (ztm 16)) ∈ zFC := List.mem_of_getElem? (i := 312) (by decide +kernel)
theorem zn_3_17 : Cond.not (Cond.eq (ztm 3) (ztm 17)) ∈ zFC := List.mem_of_getElem? (i := 336) (by decide +kernel)
theorem zn_3_18 : Cond.not (Cond.eq (ztm 3) (ztm 18)) ∈ zFC := List.mem_of_getElem? (i := 362) (by decide +kernel)
theorem zn_3_19 : Cond.not (Cond.eq (ztm 3) (ztm 19)) ∈ zFC := List.mem_of_getElem? (i := 390) (by decide +kernel)
theorem zn_4_5 : Cond.not (Cond.eq (ztm 4) (ztm 5)) ∈ zFC := List.mem_of_getElem? (i := 105) (by decide +kernel)
theorem zn_4_6 : Cond.not (Cond.eq (ztm 4) (ztm 6)) ∈ zFC := List.mem_of_getElem? (i := 116) (by decide +kernel)
theorem zn_4_7 : Cond.not (Cond.eq (ztm 4) (ztm 7)) ∈ zFC := List.mem_of_getElem? (i := 130) (by decide +kernel)
theorem zn_4_8 : Cond.not (Cond.eq (ztm 4) (ztm 8)) ∈ zFC := List.mem_of_getElem? (i := 144) (by decide +kernel)
theorem zn_4_9 : Cond.not (Cond.eq (ztm 4) (ztm 9)) ∈ zFC := List.mem_of_getElem? (i := 160) (by decide +kernel)
theorem zn_4_10 : Cond.not (Cond.eq (ztm 4) (ztm 10)) ∈ zFC := List.mem_of_getElem? (i := 178) (by decide +kernel)
theorem zn_4_11 : Cond.not (Cond.eq (ztm 4) (ztm 11)) ∈ zFC := List.mem_of_getElem? (i := 198) (by decide +kernel)
theorem zn_4_12 : Cond.not (Cond.eq (ztm 4) (ztm 12)) ∈ zFC := List.mem_of_getElem? (i := 219) (by decide +kernel)
theorem zn_4_13 : Cond.not (Cond.eq (ztm 4) (ztm 13)) ∈ zFC := List.mem_of_getElem? (i := 241) (by decide +kernel)
theorem zn_4_14 : Cond.not (Cond.eq (ztm 4) (ztm 14)) ∈ zFC := List.mem_of_getElem? (i := 264) (by decide +kernel)
theorem zn_4_15 : Cond.not (Cond.eq (ztm 4) (ztm 15)) ∈ zFC := List.mem_of_getElem? (i := 288) (by decide +kernel)
theorem zn_4_16 : Cond.not (Cond.eq (ztm 4) (ztm 16)) ∈ zFC := List.mem_of_getElem? (i := 313) (by decide +kernel)
theorem zn_4_17 : Cond.not (Cond.eq (ztm 4) (ztm 17)) ∈ zFC := List.mem_of_getElem? (i := 337) (by decide +kernel)
theorem zn_4_18 : Cond.not (Cond.eq (ztm 4) (ztm 18)) ∈ zFC := List.mem_of_getElem? (i := 363) (by decide +kernel)
theorem zn_4_19 : Cond.not (Cond.eq (ztm 4) (ztm 19)) ∈ zFC := List.mem_of_getElem? (i := 391) (by decide +kernel)
theorem zn_5_6 : Cond.not (Cond.eq (ztm 5) (ztm 6)) ∈ zFC := List.mem_of_getElem? (i := 117) (by decide +kernel)
theorem zn_5_7 : Cond.not (Cond.eq (ztm 5) (ztm 7)) ∈ zFC := List.mem_of_getElem? (i := 131) (by decide +kernel)
theorem zn_5_8 : Cond.not (Cond.eq (ztm 5) (ztm 8)) ∈ zFC := List.mem_of_getElem? (i := 145) (by decide +kernel)
theorem zn_5_9 : Cond.not (Cond.eq (ztm 5) (ztm 9)) ∈ zFC := List.mem_of_getElem? (i := 161) (by decide +kernel)
theorem zn_5_10 : Cond.not (Cond.eq (ztm 5) (ztm 10)) ∈ zFC := List.mem_of_getElem? (i := 179) (by decide +kernel)
theorem zn_5_11 : Cond.not (Cond.eq (ztm 5) (ztm 11)) ∈ zFC := List.mem_of_getElem? (i := 199) (by decide +kernel)
theorem zn_5_12 : Cond.not (Cond.eq (ztm 5) (ztm 12)) ∈ zFC := List.mem_of_getElem? (i := 220) (by decide +kernel)
theorem zn_5_13 : Cond.not (Cond.eq (ztm 5) (ztm 13)) ∈ zFC := List.mem_of_getElem? (i := 242) (by decide +kernel)
theorem zn_5_14 : Cond.not (Cond.eq (ztm 5) (ztm 14)) ∈ zFC := List.mem_of_getElem? (i := 265) (by decide +kernel)
theorem zn_5_15 : Cond.not (Cond.eq (ztm 5) (ztm 15)) ∈ zFC := List.mem_of_getElem? (i := 289) (by decide +kernel)
theorem zn_5_16 : Cond.not (Cond.eq (ztm 5) (ztm 16)) ∈ zFC := List.mem_of_getElem? (i := 314) (by decide +kernel)
theorem zn_5_17 : Cond.not (Cond.eq (ztm 5) (ztm 17)) ∈ zFC := List.mem_of_getElem? (i := 338) (by decide +kernel)
theorem zn_5_18 : Cond.not (Cond.eq (ztm 5) (ztm 18)) ∈ zFC := List.mem_of_getElem? (i := 364) (by decide +kernel)
theorem zn_5_19 : Cond.not (Cond.eq (ztm 5) (ztm 19)) ∈ zFC := List.mem_of_getElem? (i := 392) (by decide +kernel)
theorem zn_6_7 : Cond.not (Cond.eq (ztm 6) (ztm 7)) ∈ zFC := List.mem_of_getElem? (i := 132) (by decide +kernel)
theorem zn_6_8 : Cond.not (Cond.eq (ztm 6) (ztm 8)) ∈ zFC := List.mem_of_getElem? (i := 146) (by decide +kernel)
theorem zn_6_9 : Cond.not (Cond.eq (ztm 6) (ztm 9)) ∈ zFC := List.mem_of_getElem? (i := 162) (by decide +kernel)
theorem zn_6_10 : Cond.not (Cond.eq (ztm 6) (ztm 10)) ∈ zFC := List.mem_of_getElem? (i := 180) (by decide +kernel)
theorem zn_6_11 : Cond.not (Cond.eq (ztm 6) (ztm 11)) ∈ zFC := List.mem_of_getElem? (i := 200) (by decide +kernel)
theorem zn_6_12 : Cond.not (Cond.eq (ztm 6) (ztm 12)) ∈ zFC := List.mem_of_getElem? (i := 221) (by decide +kernel)
theorem zn_6_13 : Cond.not (Cond.eq (ztm 6) (ztm 13)) ∈ zFC := List.mem_of_getElem? (i := 243) (by decide +kernel)
theorem zn_6_14 : Cond.not (Cond.eq (ztm 6) (ztm 14)) ∈ zFC := List.mem_of_getElem? (i := 266) (by decide +kernel)
theorem zn_6_15 : Cond.not (Cond.eq (ztm 6) (ztm 15)) ∈ zFC := List.mem_of_getElem? (i := 290) (by decide +kernel)
theorem zn_6_16 : Cond.not (Cond.eq (ztm 6) (ztm 16)) ∈ zFC := List.mem_of_getElem? (i := 315) (by decide +kernel)
theorem zn_6_17 : Cond.not (Cond.eq (ztm 6) (ztm 17)) ∈ zFC := List.mem_of_getElem? (i := 339) (by decide +kernel)
theorem zn_6_18 : Cond.not (Cond.eq (ztm 6) (ztm 18)) ∈ zFC := List.mem_of_getElem? (i := 365) (by decide +kernel)
theorem zn_6_19 : Cond.not (Cond.eq (ztm 6) (ztm 19)) ∈ zFC := List.mem_of_getElem? (i := 393) (by decide +kernel)
theorem zn_7_8 : Cond.not (Cond.eq (ztm 7) (ztm 8)) ∈ zFC := List.mem_of_getElem? (i := 147) (by decide +kernel)
theorem zn_7_9 : Cond.not (Cond.eq (ztm 7) (ztm 9)) ∈ zFC := List.mem_of_getElem? (i := 163) (by decide +kernel)
theorem zn_7_10 : Cond.not (Cond.eq (ztm 7) (ztm 10)) ∈ zFC := List.mem_of_getElem? (i := 181) (by decide +kernel)
theorem zn_7_11 : Cond.not (Cond.eq (ztm 7) (ztm 11)) ∈ zFC := List.mem_of_getElem? (i := 201) (by decide +kernel)
theorem zn_7_12 : Cond.not (Cond.eq (ztm 7) (ztm 12)) ∈ zFC := List.mem_of_getElem? (i := 222) (by decide +kernel)
theorem zn_7_13 : Cond.not (Cond.eq (ztm 7) (ztm 13)) ∈ zFC := List.mem_of_getElem? (i := 244) (by decide +kernel)
theorem zn_7_14 : Cond.not (Cond.eq (ztm 7) (ztm 14)) ∈ zFC := List.mem_of_getElem? (i := 267) (by decide +kernel)
theorem zn_7_15 : Cond.not (Cond.eq (ztm 7) (ztm 15)) ∈ zFC := List.mem_of_getElem? (i := 291) (by decide +kernel)
theorem zn_7_16 : Cond.not (Cond.eq (ztm 7) (ztm 16)) ∈ zFC := List.mem_of_getElem? (i := 316) (by decide +kernel)
theorem zn_7_17 : Cond.not (Cond.eq (ztm 7) (ztm 17)) ∈ zFC := List.mem_of_getElem? (i := 340) (by decide +kernel)
theorem zn_7_18 : Cond.not (Cond.eq (ztm 7) (ztm 18)) ∈ zFC := List.mem_of_getElem? (i := 366) (by decide +kernel)
theorem zn_7_19 : Cond.not (Cond.eq (ztm 7) (ztm 19)) ∈ zFC := List.mem_of_getElem? (i := 394) (by decide +kernel)
theorem zn_8_9 : Cond.not (Cond.eq (ztm 8) (ztm 9)) ∈ zFC := List.mem_of_getElem? (i := 164) (by decide +kernel)
theorem zn_8_10 : Cond.not (Cond.eq (ztm 8) (ztm 10)) ∈ zFC := List.mem_of_getElem? (i := 182) (by decide +kernel)
theorem zn_8_11 : Cond.not (Cond.eq (ztm 8) (ztm 11)) ∈ zFC := List.mem_of_getElem? (i := 202) (by decide +kernel)
theorem zn_8_12 : Cond.not (Cond.eq (ztm 8) (ztm 12)) ∈ zFC := List.mem_of_getElem? (i := 223) (by decide +kernel)
theorem zn_8_13 : Cond.not (Cond.eq (ztm 8) (ztm 13)) ∈ zFC := List.mem_of_getElem? (i := 245) (by decide +kernel)
theorem zn_8_14 : Cond.not (Cond.eq (ztm 8) (ztm 14)) ∈ zFC := List.mem_of_getElem? (i := 268) (by decide +kernel)
theorem zn_8_15 : Cond.not (Cond.eq (ztm 8) (ztm 15)) ∈ zFC := List.mem_of_getElem? (i := 292) (by decide +kernel)
theorem zn_8_16 : Cond.not (Cond.eq (ztm 8) (ztm 16)) ∈ zFC := List.mem_of_getElem? (i := 317) (by decide +kernel)
theorem zn_8_17 : Cond.not (Cond.eq (ztm 8) (ztm 17)) ∈ zFC := List.mem_of_getElem? (i := 341) (by decide +kernel)
theorem zn_8_18 : Cond.not (Cond.eq (ztm 8) (ztm 18)) ∈ zFC := List.mem_of_getElem? (i := 367) (by decide +kernel)
theorem zn_8_19 : Cond.not (Cond.eq (ztm 8) (ztm 19)) ∈ zFC := List.mem_of_getElem? (i := 395) (by decide +kernel)
theorem zn_9_10 : Cond.not (Cond.eq (ztm 9) (ztm 10)) ∈ zFC := List.mem_of_getElem? (i := 183) (by decide +kernel)
theorem zn_9_11 : Cond.not (Cond.eq (ztm 9) (ztm 11)) ∈ zFC := List.mem_of_getElem? (i := 203) (by decide +kernel)
theorem zn_9_12 : Cond.not (Cond.eq (ztm 9) (ztm 12)) ∈ zFC := List.mem_of_getElem? (i := 224) (by decide +kernel)
theorem zn_9_13 : Cond.not (Cond.eq (ztm 9) (ztm 13)) ∈ zFC := List.mem_of_getElem? (i := 246) (by decide +kernel)
theorem zn_9_14 : Cond.not (Cond.eq (ztm 9) (ztm 14)) ∈ zFC := List.mem_of_getElem? (i := 269) (by decide +kernel)
theorem zn_9_15 : Cond.not (Cond.eq (ztm 9) (ztm 15)) ∈ zFC := List.mem_of_getElem? (i := 293) (by decide +kernel)
theorem zn_9_16 : Cond.not (Cond.eq (ztm 9) (ztm 16)) ∈ zFC := List.mem_of_getElem? (i := 318) (by decide +kernel)
theorem zn_9_17 : Cond.not (Cond.eq (ztm 9) (ztm 17)) ∈ zFC := List.mem_of_getElem? (i := 342) (by decide +kernel)
theorem zn_9_18 : Cond.not (Cond.eq (ztm 9) (ztm 18)) ∈ zFC := List.mem_of_getElem? (i := 368) (by decide +kernel)
theorem zn_9_19 : Cond.not (Cond.eq (ztm 9) (ztm 19)) ∈ zFC := List.mem_of_getElem? (i := 396) (by decide +kernel)
theorem zn_10_11 : Cond.not (Cond.eq (ztm 10) (ztm 11)) ∈ zFC := List.mem_of_getElem? (i := 204) (by decide +kernel)
theorem zn_10_12 : Cond.not (Cond.eq (ztm 10) (ztm 12)) ∈ zFC := List.mem_of_getElem? (i := 225) (by decide +kernel)
theorem zn_10_13 : Cond.not (Cond.eq (ztm 10) (ztm 13)) ∈ zFC := List.mem_of_getElem? (i := 247) (by decide +kernel)
theorem zn_10_14 : Cond.not (Cond.eq (ztm 10) (ztm 14)) ∈ zFC := List.mem_of_getElem? (i := 270) (by decide +kernel)
theorem zn_10_15 : Cond.not (Cond.eq (ztm 10) (ztm 15)) ∈ zFC := List.mem_of_getElem? (i := 294) (by decide +kernel)
theorem zn_10_16 : Cond.not (Cond.eq (ztm 10) (ztm 16)) ∈ zFC := List.mem_of_getElem? (i := 319) (by decide +kernel)
theorem zn_10_17 : Cond.not (Cond.eq (ztm 10) (ztm 17)) ∈ zFC := List.mem_of_getElem? (i := 343) (by decide +kernel)
theorem zn_10_18 : Cond.not (Cond.eq (ztm 10) (ztm 18)) ∈ zFC := List.mem_of_getElem? (i := 369) (by decide +kernel)
theorem zn_10_19 : Cond.not (Cond.eq (ztm 10) (ztm 19)) ∈ zFC := List.mem_of_getElem? (i := 397) (by decide +kernel)
theorem zn_11_12 : Cond.not (Cond.eq (ztm 11) (ztm 12)) ∈ zFC := List.mem_of_getElem? (i := 226) (by decide +kernel)
theorem zn_11_13 : Cond.not (Cond.eq (ztm 11) (ztm 13)) ∈ zFC := List.mem_of_getElem? (i := 248) (by decide +kernel)
theorem zn_11_14 : Cond.not (Cond.eq (ztm 11) (ztm 14)) ∈ zFC := List.mem_of_getElem? (i := 271) (by decide +kernel)
theorem zn_11_15 : Cond.not (Cond.eq (ztm 11) (ztm 15)) ∈ zFC := List.mem_of_getElem? (i := 295) (by decide +kernel)
theorem zn_11_16 : Cond.not (Cond.eq (ztm 11) (ztm 16)) ∈ zFC := List.mem_of_getElem? (i := 320) (by decide +kernel)
theorem zn_11_17 : Cond.not (Cond.eq (ztm 11) (ztm 17)) ∈ zFC := List.mem_of_getElem? (i := 344) (by decide +kernel)
theorem zn_11_18 : Cond.not (Cond.eq (ztm 11) (ztm 18)) ∈ zFC := List.mem_of_getElem? (i := 370) (by decide +kernel)
theorem zn_11_19 : Cond.not (Cond.eq (ztm 11) (ztm 19)) ∈ zFC := List.mem_of_getElem? (i := 398) (by decide +kernel)
theorem zn_12_13 : Cond.not (Cond.eq (ztm 12) (ztm 13)) ∈ zFC := List.mem_of_getElem? (i := 249) (by decide +kernel)
theorem zn_12_14 : Cond.not (Cond.eq (ztm 12) (ztm 14)) ∈ zFC := List.mem_of_getElem? (i := 272) (by decide +kernel)
theorem zn_12_15 : Cond.not (Cond.eq (ztm 12) (ztm 15)) ∈ zFC := List.mem_of_getElem? (i := 296) (by decide +kernel)
theorem zn_12_16 : Cond.not (Cond.eq (ztm 12) (ztm 16)) ∈ zFC := List.mem_of_getElem? (i := 321) (by decide +kernel)
theorem zn_12_17 : Cond.not (Cond.eq (ztm 12) (ztm 17)) ∈ zFC := List.mem_of_getElem? (i := 345) (by decide +kernel)
theorem zn_12_18 : Cond.not (Cond.eq (ztm 12) (ztm 18)) ∈ zFC := List.mem_of_getElem? (i := 371) (by decide +kernel)
theorem zn_12_19 : Cond.not (Cond.eq (ztm 12) (ztm 19)) ∈ zFC := List.mem_of_getElem? (i := 399) (by decide +kernel)
theorem zn_13_14 : Cond.not (Cond.eq (ztm 13) (ztm 14)) ∈ zFC := List.mem_of_getElem? (i := 273) (by decide +kernel)
theorem zn_13_15 : Cond.not (Cond.eq (ztm 13) (ztm 15)) ∈ zFC := List.mem_of_getElem? (i := 297) (by decide +kernel)
theorem zn_13_16 : Cond.not (Cond.eq (ztm 13) (ztm 16)) ∈ zFC := List.mem_of_getElem? (i := 322) (by decide +kernel)
theorem zn_13_17 : Cond.not (Cond.eq (ztm 13) (ztm 17)) ∈ zFC := List.mem_of_getElem? (i := 346) (by decide +kernel)
theorem zn_13_18 : Cond.not (Cond.eq (ztm 13) (ztm 18)) ∈ zFC := List.mem_of_getElem? (i := 372) (by decide +kernel)
theorem zn_13_19 : Cond.not (Cond.eq (ztm 13) (ztm 19)) ∈ zFC := List.mem_of_getElem? (i := 400) (by decide +kernel)
theorem zn_14_15 : Cond.not (Cond.eq (ztm 14) (ztm 15)) ∈ zFC := List.mem_of_getElem? (i := 298) (by decide +kernel)
theorem zn_14_16 : Cond.not (Cond.eq (ztm 14) (ztm 16)) ∈ zFC := List.mem_of_getElem? (i := 323) (by decide +kernel)
theorem zn_14_17 : Cond.not (Cond.eq (ztm 14) (ztm 17)) ∈ zFC := List.mem_of_getElem? (i := 347) (by decide +kernel)
theorem zn_14_18 : Cond.not (Cond.eq (ztm 14) (ztm 18)) ∈ zFC := List.mem_of_getElem? (i := 373) (by decide +kernel)
theorem zn_14_19 : Cond.not (Cond.eq (ztm 14) (ztm 19)) ∈ zFC := List.mem_of_getElem? (i := 401) (by decide +kernel)
theorem zn_15_16 : Cond.not (Cond.eq (ztm 15) (ztm 16)) ∈ zFC := List.mem_of_getElem? (i := 324) (by decide +kernel)
theorem zn_15_17 : Cond.not (Cond.eq (ztm 15) (ztm 17)) ∈ zFC := List.mem_of_getElem? (i := 348) (by decide +kernel)
theorem zn_15_18 : Cond.not (Cond.eq (ztm 15) (ztm 18)) ∈ zFC := List.mem_of_getElem? (i := 374) (by decide +kernel)
theorem zn_15_19 : Cond.not (Cond.eq (ztm 15) (ztm 19)) ∈ zFC := List.mem_of_getElem? (i := 402) (by decide +kernel)
theorem zn_16_17 : Cond.not (Cond.eq (ztm 16) (ztm 17)) ∈ zFC := List.mem_of_getElem? (i := 349) (by decide +kernel)
theorem zn_16_18 : Cond.not (Cond.eq (ztm 16) (ztm 18)) ∈ zFC := List.mem_of_getElem? (i := 375) (by decide +kernel)
theorem zn_16_19 : Cond.not (Cond.eq (ztm 16) (ztm 19)) ∈ zFC := List.mem_of_getElem? (i := 403) (by decide +kernel)
theorem zn_17_18 : Cond.not (Cond.eq (ztm 17) (ztm 18)) ∈ zFC := List.mem_of_getElem? (i := 376) (by decide +kernel)
theorem zn_17_19 : Cond.not (Cond.eq (ztm 17) (ztm 19)) ∈ zFC := List.mem_of_getElem? (i := 404) (by decide +kernel)
theorem zn_18_19 : Cond.not (Cond.eq (ztm 18) (ztm 19)) ∈ zFC := List.mem_of_getElem? (i := 405) (by decide +kernel)
theorem zf_ne_0 : ∀ j, j < 20 → 0 ≠ j → (Cond.not (Cond.eq (ztm 0) (ztm j)) ∈ zFC ∨ Cond.not (Cond.eq (ztm j) (ztm 0)) ∈ zFC)
  | 0, _, h => absurd rfl h
  | 1, _, _ => Or.inl zn_0_1
  | 2, _, _ => Or.inl zn_0_2
  | 3, _, _ => Or.inl zn_0_3
  | 4, _, _ => Or.inl zn_0_4
  | 5, _, _ => Or.inl zn_0_5
  | 6, _, _ => Or.inl zn_0_6
  | 7, _, _ => Or.inl zn_0_7
  | 8, _, _ => Or.inl zn_0_8
  | 9, _, _ => Or.inl zn_0_9
  | 10, _, _ => Or.inl zn_0_10
  | 11, _, _ => Or.inl zn_0_11
  | 12, _, _ => Or.inl zn_0_12
  | 13, _, _ => Or.inl zn_0_13
  | 14, _, _ => Or.inl zn_0_14
  | 15, _, _ => Or.inl zn_0_15
  | 16, _, _ => Or.inl zn_0_16
  | 17, _, _ => Or.inl zn_0_17
  | 18, _, _ => Or.inl zn_0_18
  | 19, _, _ => Or.inl zn_0_19
  | j + 20, h, _ => absurd h (by omega)
theorem zf_ne_1 : ∀ j, j < 20 → 1 ≠ j → (Cond.not (Cond.eq (ztm 1) (ztm j)) ∈ zFC ∨ Cond.not (Cond.eq (ztm j) (ztm 1)) ∈ zFC)
  | 0, _, _ => Or.inr zn_0_1
  | 1, _, h => absurd rfl h
  | 2, _, _ => Or.inl zn_1_2
  | 3, _, _ => Or.inl zn_1_3
  | 4, _, _ => Or.inl zn_1_4
  | 5, _, _ => Or.inl zn_1_5
  | 6, _, _ => Or.inl zn_1_6
  | 7, _, _ => Or.inl zn_1_7
  | 8, _, _ => Or.inl zn_1_8
  | 9, _, _ => Or.inl zn_1_9
  | 10, _, _ => Or.inl zn_1_10
  | 11, _, _ => Or.inl zn_1_11
  | 12, _, _ => Or.inl zn_1_12
  | 13, _, _ => Or.inl zn_1_13
  | 14, _, _ => Or.inl zn_1_14
  | 15, _, _ => Or.inl zn_1_15
  | 16, _, _ => Or.inl zn_1_16
  | 17, _, _ => Or.inl zn_1_17
  | 18, _, _ => Or.inl zn_1_18
  | 19, _, _ => Or.inl zn_1_19
  | j + 20, h, _ => absurd h (by omega)
theorem zf_ne_2 : ∀ j, j < 20 → 2 ≠ j → (Cond.not (Cond.eq (ztm 2) (ztm j)) ∈ zFC ∨ Cond.not (Cond.eq (ztm j) (ztm 2)) ∈ zFC)
  | 0, _, _ => Or.inr zn_0_2
  | 1, _, _ => Or.inr zn_1_2
  | 2, _, h => absurd rfl h
  | 3, _, _ => Or.inl zn_2_3
  | 4, _, _ => Or.inl zn_2_4
  | 5, _, _ => Or.inl zn_2_5
  | 6, _, _ => Or.inl zn_2_6
  | 7, _, _ => Or.inl zn_2_7
  | 8, _, _ => Or.inl zn_2_8
  | 9, _, _ => Or.inl zn_2_9
  | 10, _, _ => Or.inl zn_2_10
  | 11, _, _ => Or.inl zn_2_11
  | 12, _, _ => Or.inl zn_2_12
  | 13, _, _ => Or.inl zn_2_13
  | 14, _, _ => Or.inl zn_2_14
  | 15, _, _ => Or.inl zn_2_15
  | 16, _, _ => Or.inl zn_2_16
  | 17, _, _ => Or.inl zn_2_17
  | 18, _, _ => Or.inl zn_2_18
  | 19, _, _ => Or.inl zn_2_19
  | j + 20, h, _ => absurd h (by omega)
theorem zf_ne_3 : ∀ j, j < 20 → 3 ≠ j → (Cond.not (Cond.eq (ztm 3) (ztm j)) ∈ zFC ∨ Cond.not (Cond.eq (ztm j) (ztm 3)) ∈ zFC)
  | 0, _, _ => Or.inr zn_0_3
  | 1, _, _ => Or.inr zn_1_3
  | 2, _, _ => Or.inr zn_2_3
  | 3, _, h => absurd rfl h
  | 4, _, _ => Or.inl zn_3_4
  | 5, _, _ => Or.inl zn_3_5
  | 6, _, _ => Or.inl zn_3_6
  | 7, _, _ => Or.inl zn_3_7
  | 8, _, _ => Or.inl zn_3_8
  | 9, _, _ => Or.inl zn_3_9
  | 10, _, _ => Or.inl zn_3_10
  | 11, _, _ => Or.inl zn_3_11
  | 12, _, _ => Or.inl zn_3_12
  | 13, _, _ => Or.inl zn_3_13
  | 14, _, _ => Or.inl zn_3_14
  | 15, _, _ => Or.inl zn_3_15
  | 16, _, _ => Or.inl zn_3_16
  | 17, _, _ => Or.inl zn_3_17
  | 18, _, _ => Or.inl zn_3_18
  | 19, _, _ => Or.inl zn_3_19
  | j + 20, h, _ => absurd h (by omega)
theorem zf_ne_4 : ∀ j, j < 20 → 4 ≠ j → (Cond.not (Cond.eq (ztm 4) (ztm j)) ∈ zFC ∨ Cond.not (Cond.eq (ztm j) (ztm 4)) ∈ zFC)
  | 0, _, _ => Or.inr zn_0_4
  | 1, _, _ => Or.inr zn_1_4
  | 2, _, _ => Or.inr zn_2_4
  | 3, _, _ => Or.inr zn_3_4
  | 4, _, h => absurd rfl h
  | 5, _, _ => Or.inl zn_4_5
  | 6, _, _ => Or.inl zn_4_6
  | 7, _, _ => Or.inl zn_4_7
  | 8, _, _ => Or.inl zn_4_8
  | 9, _, _ => Or.inl zn_4_9
  | 10, _, _ => Or.inl zn_4_10
  | 11, _, _ => Or.inl zn_4_11
  | 12, _, _ => Or.inl zn_4_12
  | 13, _, _ => Or.inl zn_4_13
  | 14, _, _ => Or.inl zn_4_14
  | 15, _, _ => Or.inl zn_4_15
  | 16, _, _ => Or.inl zn_4_16
  | 17, _, _ => Or.inl zn_4_17
  | 18, _, _ => Or.inl zn_4_18
  | 19, _, _ => Or.inl zn_4_19
  | j + 20, h, _ => absurd h (by omega)
theorem zf_ne_5 : ∀ j, j < 20 → 5 ≠ j → (Cond.not (Cond.eq (ztm 5) (ztm j)) ∈ zFC ∨ Cond.not (Cond.eq (ztm j) (ztm 5)) ∈ zFC)
  | 0, _, _ => Or.inr zn_0_5
  | 1, _, _ => Or.inr zn_1_5
  | 2, _, _ => Or.inr zn_2_5
  | 3, _, _ => Or.inr zn_3_5
  | 4, _, _ => Or.inr zn_4_5
  | 5, _, h => absurd rfl h
  | 6, _, _ => Or.inl zn_5_6
  | 7, _, _ => Or.inl zn_5_7
  | 8, _, _ => Or.inl zn_5_8
  | 9, _, _ => Or.inl zn_5_9
  | 10, _, _ => Or.inl zn_5_10
  | 11, _, _ => Or.inl zn_5_11
  | 12, _, _ => Or.inl zn_5_12
  | 13, _, _ => Or.inl zn_5_13
  | 14, _, _ => Or.inl zn_5_14
  | 15, _, _ => Or.inl zn_5_15
  | 16, _, _ => Or.inl zn_5_16
  | 17, _, _ => Or.inl zn_5_17
  | 18, _, _ => Or.inl zn_5_18
  | 19, _, _ => Or.inl zn_5_19
  | j + 20, h, _ => absurd h (by omega)
theorem zf_ne_6 : ∀ j, j < 20 → 6 ≠ j → (Cond.not (Cond.eq (ztm 6) (ztm j)) ∈ zFC ∨ Cond.not (Cond.eq (ztm j) (ztm 6)) ∈ zFC)
  | 0, _, _ => Or.inr zn_0_6
  | 1, _, _ => Or.inr zn_1_6
  | 2, _, _ => Or.inr zn_2_6
  | 3, _, _ => Or.inr zn_3_6
  | 4, _, _ => Or.inr zn_4_6
  | 5, _, _ => Or.inr zn_5_6
  | 6, _, h => absurd rfl h
  | 7, _, _ => Or.inl zn_6_7
  | 8, _, _ => Or.inl zn_6_8
  | 9, _, _ => Or.inl zn_6_9
  | 10, _, _ => Or.inl zn_6_10
  | 11, _, _ => Or.inl zn_6_11
  | 12, _, _ => Or.inl zn_6_12
  | 13, _, _ => Or.inl zn_6_13
  | 14, _, _ => Or.inl zn_6_14
  | 15, _, _ => Or.inl zn_6_15
  | 16, _, _ => Or.inl zn_6_16
  | 17, _, _ => Or.inl zn_6_17
  | 18, _, _ => Or.inl zn_6_18
  | 19, _, _ => Or.inl zn_6_19
  | j + 20, h, _ => absurd h (by omega)
theorem zf_ne_7 : ∀ j, j < 20 → 7 ≠ j → (Cond.not (Cond.eq (ztm 7) (ztm j)) ∈ zFC ∨ Cond.not (Cond.eq (ztm j) (ztm 7)) ∈ zFC)
  | 0, _, _ => Or.inr zn_0_7
  | 1, _, _ => Or.inr zn_1_7
  | 2, _, _ => Or.inr zn_2_7
  | 3, _, _ => Or.inr zn_3_7
  | 4, _, _ => Or.inr zn_4_7
  | 5, _, _ => Or.inr zn_5_7
  | 6, _, _ => Or.inr zn_6_7
  | 7, _, h => absurd rfl h
  | 8, _, _ => Or.inl zn_7_8
  | 9, _, _ => Or.inl zn_7_9
  | 10, _, _ => Or.inl zn_7_10
  | 11, _, _ => Or.inl zn_7_11
  | 12, _, _ => Or.inl zn_7_12
  | 13, _, _ => Or.inl zn_7_13
  | 14, _, _ => Or.inl zn_7_14
  | 15, _, _ => Or.inl zn_7_15
  | 16, _, _ => Or.inl zn_7_16
  | 17, _, _ => Or.inl zn_7_17
  | 18, _, _ => Or.inl zn_7_18
  | 19, _, _ => Or.inl zn_7_19
  | j + 20, h, _ => absurd h (by omega)
theorem zf_ne_8 : ∀ j, j < 20 → 8 ≠ j → (Cond.not (Cond.eq (ztm 8) (ztm j)) ∈ zFC ∨ Cond.not (Cond.eq (ztm j) (ztm 8)) ∈ zFC)
  | 0, _, _ => Or.inr zn_0_8
  | 1, _, _ => Or.inr zn_1_8
  | 2, _, _ => Or.inr zn_2_8
  | 3, _, _ => Or.inr zn_3_8
  | 4, _, _ => Or.inr zn_4_8
  | 5, _, _ => Or.inr zn_5_8
  | 6, _, _ => Or.inr zn_6_8
  | 7, _, _ => Or.inr zn_7_8
  | 8, _, h => absurd rfl h
  | 9, _, _ => Or.inl zn_8_9
  | 10, _, _ => Or.inl zn_8_10
  | 11, _, _ => Or.inl zn_8_11
  | 12, _, _ => Or.inl zn_8_12
  | 13, _, _ => Or.inl zn_8_13
  | 14, _, _ => Or.inl zn_8_14
  | 15, _, _ => Or.inl zn_8_15
  | 16, _, _ => Or.inl zn_8_16
  | 17, _, _ => Or.inl zn_8_17
  | 18, _, _ => Or.inl zn_8_18
  | 19, _, _ => Or.inl zn_8_19
  | j + 20, h, _ => absurd h (by omega)
theorem zf_ne_9 : ∀ j, j < 20 → 9 ≠ j → (Cond.not (Cond.eq (ztm 9) (ztm j)) ∈ zFC ∨ Cond.not (Cond.eq (ztm j) (ztm 9)) ∈ zFC)
  | 0, _, _ => Or.inr zn_0_9
  | 1, _, _ => Or.inr zn_1_9
  | 2, _, _ => Or.inr zn_2_9
  | 3, _, _ => Or.inr zn_3_9
  | 4, _, _ => Or.inr zn_4_9
  | 5, _, _ => Or.inr zn_5_9
  | 6, _, _ => Or.inr zn_6_9
  | 7, _, _ => Or.inr zn_7_9
  | 8, _, _ => Or.inr zn_8_9
  | 9, _, h => absurd rfl h
  | 10, _, _ => Or.inl zn_9_10
  | 11, _, _ => Or.inl zn_9_11
  | 12, _, _ => Or.inl zn_9_12
  | 13, _, _ => Or.inl zn_9_13
  | 14, _, _ => Or.inl zn_9_14
  | 15, _, _ => Or.inl zn_9_15
  | 16, _, _ => Or.inl zn_9_16
  | 17, _, _ => Or.inl zn_9_17
  | 18, _, _ => Or.inl zn_9_18
  | 19, _, _ => Or.inl zn_9_19
  | j + 20, h, _ => absurd h (by omega)
theorem zf_ne_10 : ∀ j, j < 20 → 10 ≠ j → (Cond.not (Cond.eq (ztm 10) (ztm j)) ∈ zFC ∨ Cond.not (Cond.eq (ztm j) (ztm 10)) ∈ zFC)
  | 0, _, _ => Or.inr zn_0_10
  | 1, _, _ => Or.inr zn_1_10
  | 2, _, _ => Or.inr zn_2_10
  | 3, _, _ => Or.inr zn_3_10
  | 4, _, _ => Or.inr zn_4_10
  | 5, _, _ => Or.inr zn_5_10
  | 6, _, _ => Or.inr zn_6_10
  | 7, _, _ => Or.inr zn_7_10
  | 8, _, _ => Or.inr zn_8_10
  | 9, _, _ => Or.inr zn_9_10
  | 10, _, h => absurd rfl h
  | 11, _, _ => Or.inl zn_10_11
  | 12, _, _ => Or.inl zn_10_12
  | 13, _, _ => Or.inl zn_10_13
  | 14, _, _ => Or.inl zn_10_14
  | 15, _, _ => Or.inl zn_10_15
  | 16, _, _ => Or.inl zn_10_16
  | 17, _, _ => Or.inl zn_10_17
  | 18, _, _ => Or.inl zn_10_18
  | 19, _, _ => Or.inl zn_10_19
  | j + 20, h, _ => absurd h (by omega)
theorem zf_ne_11 : ∀ j, j < 20 → 11 ≠ j → (Cond.not (Cond.eq (ztm 11) (ztm j)) ∈ zFC ∨ Cond.not (Cond.eq (ztm j) (ztm 11)) ∈ zFC)
  | 0, _, _ => Or.inr zn_0_11
  | 1, _, _ => Or.inr zn_1_11
  | 2, _, _ => Or.inr zn_2_11
  | 3, _, _ => Or.inr zn_3_11
  | 4, _, _ => Or.inr zn_4_11
  | 5, _, _ => Or.inr zn_5_11
  | 6, _, _ => Or.inr zn_6_11
  | 7, _, _ => Or.inr zn_7_11
  | 8, _, _ => Or.inr zn_8_11
  | 9, _, _ => Or.inr zn_9_11
  | 10, _, _ => Or.inr zn_10_11
  | 11, _, h => absurd rfl h
  | 12, _, _ => Or.inl zn_11_12
  | 13, _, _ => Or.inl zn_11_13
  | 14, _, _ => Or.inl zn_11_14
  | 15, _, _ => Or.inl zn_11_15
  | 16, _, _ => Or.inl zn_11_16
  | 17, _, _ => Or.inl zn_11_17
  | 18, _, _ => Or.inl zn_11_18
  | 19, _, _ => Or.inl zn_11_19
  | j + 20, h, _ => absurd h (by omega)
theorem zf_ne_12 : ∀ j, j < 20 → 12 ≠ j → (Cond.not (Cond.eq (ztm 12) (ztm j)) ∈ zFC ∨ Cond.not (Cond.eq (ztm j) (ztm 12)) ∈ zFC)
  | 0, _, _ => Or.inr zn_0_12
  | 1, _, _ => Or.inr zn_1_12
  | 2, _, _ => Or.inr zn_2_12
  | 3, _, _ => Or.inr zn_3_12
  | 4, _, _ => Or.inr zn_4_12
  | 5, _, _ => Or.inr zn_5_12
  | 6, _, _ => Or.inr zn_6_12
  | 7, _, _ => Or.inr zn_7_12
  | 8, _, _ => Or.inr zn_8_12
  | 9, _, _ => Or.inr zn_9_12
  | 10, _, _ => Or.inr zn_10_12
  | 11, _, _ => Or.inr zn_11_12
  | 12, _, h => absurd rfl h
  | 13, _, _ => Or.inl zn_12_13
  | 14, _, _ => Or.inl zn_12_14
  | 15, _, _ => Or.inl zn_12_15
  | 16, _, _ => Or.inl zn_12_16
  | 17, _, _ => Or.inl zn_12_17
  | 18, _, _ => Or.inl zn_12_18
  | 19, _, _ => Or.inl zn_12_19
  | j + 20, h, _ => absurd h (by omega)
theorem zf_ne_13 : ∀ j, j < 20 → 13 ≠ j → (Cond.not (Cond.eq (ztm 13) (ztm j)) ∈ zFC ∨ Cond.not (Cond.eq (ztm j) (ztm 13)) ∈ zFC)
  | 0, _, _ => Or.inr zn_0_13
  | 1, _, _ => Or.inr zn_1_13
  | 2, _, _ => Or.inr zn_2_13
  | 3, _, _ => Or.inr zn_3_13
  | 4, _, _ => Or.inr zn_4_13
  | 5, _, _ => Or.inr zn_5_13
  | 6, _, _ => Or.inr zn_6_13
  | 7, _, _ => Or.inr zn_7_13
  | 8, _, _ => Or.inr zn_8_13
  | 9, _, _ => Or.inr zn_9_13
  | 10, _, _ => Or.inr zn_10_13
  | 11, _, _ => Or.inr zn_11_13
  | 12, _, _ => Or.inr zn_12_13
  | 13, _, h => absurd rfl h
  | 14, _, _ => Or.inl zn_13_14
  | 15, _, _ => Or.inl zn_13_15
  | 16, _, _ => Or.inl zn_13_16
  | 17, _, _ => Or.inl zn_13_17
  | 18, _, _ => Or.inl zn_13_18
  | 19, _, _ => Or.inl zn_13_19
  | j + 20, h, _ => absurd h (by omega)
theorem zf_ne_14 : ∀ j, j < 20 → 14 ≠ j → (Cond.not (Cond.eq (ztm 14) (ztm j)) ∈ zFC ∨ Cond.not (Cond.eq (ztm j) (ztm 14)) ∈ zFC)
  | 0, _, _ => Or.inr zn_0_14
  | 1, _, _ => Or.inr zn_1_14
  | 2, _, _ => Or.inr zn_2_14
  | 3, _, _ => Or.inr zn_3_14
  | 4, _, _ => Or.inr zn_4_14
  | 5, _, _ => Or.inr zn_5_14
  | 6, _, _ => Or.inr zn_6_14
  | 7, _, _ => Or.inr zn_7_14
  | 8, _, _ => Or.inr zn_8_14
  | 9, _, _ => Or.inr zn_9_14
  | 10, _, _ => Or.inr zn_10_14
  | 11, _, _ => Or.inr zn_11_14
  | 12, _, _ => Or.inr zn_12_14
  | 13, _, _ => Or.inr zn_13_14
  | 14, _, h => absurd rfl h
  | 15, _, _ => Or.inl zn_14_15
  | 16, _, _ => Or.inl zn_14_16
  | 17, _, _ => Or.inl zn_14_17
  | 18, _, _ => Or.inl zn_14_18
  | 19, _, _ => Or.inl zn_14_19
  | j + 20, h, _ => absurd h (by omega)
theorem zf_ne_15 : ∀ j, j < 20 → 15 ≠ j → (Cond.not (Cond.eq (ztm 15) (ztm j)) ∈ zFC ∨ Cond.not (Cond.eq (ztm j) (ztm 15)) ∈ zFC)
  | 0, _, _ => Or.inr zn_0_15
  | 1, _, _ => Or.inr zn_1_15
  | 2, _, _ => Or.inr zn_2_15
  | 3, _, _ => Or.inr zn_3_15
  | 4, _, _ => Or.inr zn_4_15
  | 5, _, _ => Or.inr zn_5_15
  | 6, _, _ => Or.inr zn_6_15
  | 7, _, _ => Or.inr zn_7_15
  | 8, _, _ => Or.inr zn_8_15
  | 9, _, _ => Or.inr zn_9_15
  | 10, _, _ => Or.inr zn_10_15
  | 11, _, _ => Or.inr zn_11_15
  | 12, _, _ => Or.inr zn_12_15
  | 13, _, _ => Or.inr zn_13_15
  | 14, _, _ => Or.inr zn_14_15
  | 15, _, h => absurd rfl h
  | 16, _, _ => Or.inl zn_15_16
  | 17, _, _ => Or.inl zn_15_17
  | 18, _, _ => Or.inl zn_15_18
  | 19, _, _ => Or.inl zn_15_19
  | j + 20, h, _ => absurd h (by omega)
theorem zf_ne_16 : ∀ j, j < 20 → 16 ≠ j → (Cond.not (Cond.eq (ztm 16) (ztm j)) ∈ zFC ∨ Cond.not (Cond.eq (ztm j) (ztm 16)) ∈ zFC)
  | 0, _, _ => Or.inr zn_0_16
  | 1, _, _ => Or.inr zn_1_16
  | 2, _, _ => Or.inr zn_2_16
  | 3, _, _ => Or.inr zn_3_16
  | 4, _, _ => Or.inr zn_4_16
  | 5, _, _ => Or.inr zn_5_16
  | 6, _, _ => Or.inr zn_6_16
  | 7, _, _ => Or.inr zn_7_16
  | 8, _, _ => Or.inr zn_8_16
  | 9, _, _ => Or.inr zn_9_16
  | 10, _, _ => Or.inr zn_10_16
  | 11, _, _ => Or.inr zn_11_16
  | 12, _, _ => Or.inr zn_12_16
  | 13, _, _ => Or.inr zn_13_16
  | 14, _, _ => Or.inr zn_14_16
  | 15, _, _ => Or.inr zn_15_16
  | 16, _, h => absurd rfl h
  | 17, _, _ => Or.inl zn_16_17
  | 18, _, _ => Or.inl zn_16_18
  | 19, _, _ => Or.inl zn_16_19
  | j + 20, h, _ => absurd h (by omega)
theorem zf_ne_17 : ∀ j, j < 20 → 17 ≠ j → (Cond.not (Cond.eq (ztm 17) (ztm j)) ∈ zFC ∨ Cond.not (Cond.eq (ztm j) (ztm 17)) ∈ zFC)
  | 0, _, _ => Or.inr zn_0_17
  | 1, _, _ => Or.inr zn_1_17
  | 2, _, _ => Or.inr zn_2_17
  | 3, _, _ => Or.inr zn_3_17
  | 4, _, _ => Or.inr zn_4_17
  | 5, _, _ => Or.inr zn_5_17
  | 6, _, _ => Or.inr zn_6_17
  | 7, _, _ => Or.inr zn_7_17
  | 8, _, _ => Or.inr zn_8_17
  | 9, _, _ => Or.inr zn_9_17
  | 10, _, _ => Or.inr zn_10_17
  | 11, _, _ => Or.inr zn_11_17
  | 12, _, _ => Or.inr zn_12_17
  | 13, _, _ => Or.inr zn_13_17
  | 14, _, _ => Or.inr zn_14_17
  | 15, _, _ => Or.inr zn_15_17
  | 16, _, _ => Or.inr zn_16_17
  | 17, _, h => absurd rfl h
  | 18, _, _ => Or.inl zn_17_18
  | 19, _, _ => Or.inl zn_17_19
  | j + 20, h, _ => absurd h (by omega)
theorem zf_ne_18 : ∀ j, j < 20 → 18 ≠ j → (Cond.not (Cond.eq (ztm 18) (ztm j)) ∈ zFC ∨ Cond.not (Cond.eq (ztm j) (ztm 18)) ∈ zFC)
  | 0, _, _ => Or.inr zn_0_18
  | 1, _, _ => Or.inr zn_1_18
  | 2, _, _ => Or.inr zn_2_18
  | 3, _, _ => Or.inr zn_3_18
  | 4, _, _ => Or.inr zn_4_18
  | 5, _, _ => Or.inr zn_5_18
  | 6, _, _ => Or.inr zn_6_18
  | 7, _, _ => Or.inr zn_7_18
  | 8, _, _ => Or.inr zn_8_18
  | 9, _, _ => Or.inr zn_9_18
  | 10, _, _ => Or.inr zn_10_18
  | 11, _, _ => Or.inr zn_11_18
  | 12, _, _ => Or.inr zn_12_18
  | 13, _, _ => Or.inr zn_13_18
  | 14, _, _ => Or.inr zn_14_18
  | 15, _, _ => Or.inr zn_15_18
  | 16, _, _ => Or.inr zn_16_18
  | 17, _, _ => Or.inr zn_17_18
  | 18, _, h => absurd rfl h
  | 19, _, _ => Or.inl zn_18_19
  | j + 20, h, _ => absurd h (by omega)
theorem zf_ne_19 : ∀ j, j < 20 → 19 ≠ j → (Cond.not (Cond.eq (ztm 19) (ztm j)) ∈ zFC ∨ Cond.not (Cond.eq (ztm j) (ztm 19)) ∈ zFC)
  | 0, _, _ => Or.inr zn_0_19
  | 1, _, _ => Or.inr zn_1_19
  | 2, _, _ => Or.inr zn_2_19
  | 3, _, _ => Or.inr zn_3_19
  | 4, _, _ => Or.inr zn_4_19
  | 5, _, _ => Or.inr zn_5_19
  | 6, _, _ => Or.inr zn_6_19
  | 7, _, _ => Or.inr zn_7_19
  | 8, _, _ => Or.inr zn_8_19
  | 9, _, _ => Or.inr zn_9_19
  | 10, _, _ => Or.inr zn_10_19
  | 11, _, _ => Or.inr zn_11_19
  | 12, _, _ => Or.inr zn_12_19
  | 13, _, _ => Or.inr zn_13_19
  | 14, _, _ => Or.inr zn_14_19
  | 15, _, _ => Or.inr zn_15_19
  | 16, _, _ => Or.inr zn_16_19
  | 17, _, _ => Or.inr zn_17_19
  | 18, _, _ => Or.inr zn_18_19
  | 19, _, h => absurd rfl h
  | j + 20, h, _ => absurd h (by omega)
theorem zf_ne : ∀ i, i < 20 → ∀ j, j < 20 → i ≠ j → (Cond.not (Cond.eq (ztm i) (ztm j)) ∈ zFC ∨ Cond.not (Cond.eq (ztm j) (ztm i)) ∈ zFC)
  | 0, _ => zf_ne_0
  | 1, _ => zf_ne_1
  | 2, _ => zf_ne_2
  | 3, _ => zf_ne_3
  | 4, _ => zf_ne_4
  | 5, _ => zf_ne_5
  | 6, _ => zf_ne_6
  | 7, _ => zf_ne_7
  | 8, _ => zf_ne_8
  | 9, _ => zf_ne_9
  | 10, _ => zf_ne_10
  | 11, _ => zf_ne_11
  | 12, _ => zf_ne_12
  | 13, _ => zf_ne_13
  | 14, _ => zf_ne_14
  | 15, _ => zf_ne_15
  | 16, _ => zf_ne_16
  | 17, _ => zf_ne_17
  | 18, _ => zf_ne_18
  | 19, _ => zf_ne_19
  | i + 20, h => absurd h (by omega)
theorem zf_k : Cond.arrayOf (.static "SixFellows" "KIND_ABOVE" "[I") .int ∈ zFC ∧ Cond.eq (.length (.static "SixFellows" "KIND_ABOVE" "[I")) (.int (Int32.ofNat 6)) ∈ zFC ∧ ∀ j : Fin 6, Cond.eq (.elem (.static "SixFellows" "KIND_ABOVE" "[I") (.int (Int32.ofNat j.val))) (.int (zka j.val)) ∈ zFC := by decide +kernel
theorem zf_f : Cond.arrayOf (.static "SixFellows" "FACTORIALS" "[I") .int ∈ zFC ∧ Cond.eq (.length (.static "SixFellows" "FACTORIALS" "[I")) (.int (Int32.ofNat 8)) ∈ zFC ∧ ∀ j : Fin 8, Cond.eq (.elem (.static "SixFellows" "FACTORIALS" "[I") (.int (Int32.ofNat j.val))) (.int (zfa j.val)) ∈ zFC := by decide +kernel
theorem zf_w : Cond.arrayOf (.static "SixFellows" "WEIGHT_OF_ORDER" "[I") .int ∈ zFC ∧ Cond.eq (.length (.static "SixFellows" "WEIGHT_OF_ORDER" "[I")) (.int (Int32.ofNat 8)) ∈ zFC ∧ ∀ j : Fin 8, Cond.eq (.elem (.static "SixFellows" "WEIGHT_OF_ORDER" "[I") (.int (Int32.ofNat j.val))) (.int (zwt j.val)) ∈ zFC := by decide +kernel
theorem zf_c : Cond.eq (.static "java/lang/String" "COMPACT_STRINGS" "Z") (.int 1) ∈ zFC ∧ Cond.isRef (.static "jdk/internal/util/Preconditions" "SIOOBE_FORMATTER" "Ljava/util/function/BiFunction;") ∈ zFC := by decide +kernel
theorem zl_k : Cond.laysStatic "SixFellows" "KIND_ABOVE" "[I" ∈ lw_tbl ∧ Cond.laysStatic "SixFellows" "FACTORIALS" "[I" ∈ lw_tbl ∧ Cond.laysStatic "SixFellows" "WEIGHT_OF_ORDER" "[I" ∈ lw_tbl ∧ Cond.initialized "SixFellows" ∈ lw_tbl := ⟨List.mem_of_getElem? (i := 272) (by decide +kernel), List.mem_of_getElem? (i := 493) (by decide +kernel), List.mem_of_getElem? (i := 495) (by decide +kernel), List.mem_of_getElem? (i := 65) (by decide +kernel)⟩
theorem zl_c : Cond.laysStatic "java/lang/String" "COMPACT_STRINGS" "Z" ∈ lw_tbl ∧ Cond.initialized "java/lang/String" ∈ lw_tbl ∧ Cond.laysStatic "jdk/internal/util/Preconditions" "SIOOBE_FORMATTER" "Ljava/util/function/BiFunction;" ∈ lw_tbl ∧ Cond.initialized "jdk/internal/util/Preconditions" ∈ lw_tbl := ⟨List.mem_of_getElem? (i := 557) (by decide +kernel), List.mem_of_getElem? (i := 73) (by decide +kernel), List.mem_of_getElem? (i := 573) (by decide +kernel), List.mem_of_getElem? (i := 75) (by decide +kernel)⟩
theorem zl_a : Cond.arrayClass .int ∈ lw_tbl ∧ Cond.arrayClass .long ∈ lw_tbl ∧ Cond.arrayOver (.object "SixFellows$Sheet") ∈ lw_tbl := ⟨List.mem_of_getElem? (i := 145) (by decide +kernel), List.mem_of_getElem? (i := 192) (by decide +kernel), List.mem_of_getElem? (i := 173) (by decide +kernel)⟩
theorem z_arrA {args : Array Value} {s : State} {ty : FieldType} (he : ∀ C, ty ≠ .object C) (h : (Cond.arrayClass ty).before args s = true) : ∃ cA, ArrOfT s cA ty ∧ va_RA s cA ty := by
  obtain ⟨c, k, comp, h1, h2, h3⟩ := Cond.arrayClass_spec h
  refine ⟨c, fun n z => ⟨fun k h => (by cases h), k, h2, comp, h3⟩, ?_⟩
  cases ty with
  | object C => exact absurd rfl (he C)
  | _ => exact h1
theorem z_arrO {args : Array Value} {s : State} {C : String} (h : (Cond.arrayOver (.object C)).before args s = true) : ∃ cA, ArrOfT s cA (.object C) ∧ va_RA s cA (.object C) := by
  obtain ⟨comp, c, k, h1, h2, h3, h4, h5⟩ := Cond.arrayOver_spec h
  exact ⟨c, fun n z => ⟨fun k h => (by cases h), k, h3, comp, h4⟩, k, comp, h3, h4, h1, h5⟩
theorem z_begin {s : State} {args : Array Value} (hts : ∀ w ∈ lw_tbl, w.before args s = true) (hgv : (Jvm.Cond.and given_1 narrow_1).before args s = true) : ∃ (g : Nat → Nat → Nat) (D : va_G), zZ g (fun q => s.heap.size ≤ q) s s.heap ∧ va_K D zCl (ztys g) s ∧ va_AO zSO s := by
  have hs : ∀ c ∈ zFC, c.before args s = true := flat_of_before _ hgv
  have htz : ∀ w ∈ zT, w.before args s = true := fun w hw => hts w (List.mem_filter.mp hw).1
  have hA : ∀ a : Nat, a < s.heap.size → ¬ (fun q : Nat => s.heap.size ≤ q) a := fun a h => Nat.not_le.mpr h
  obtain ⟨cI, hI⟩ := z_arrA (ty := .int) (fun C h => by cases h) (hts _ zl_a.1)
  obtain ⟨cJ, hJ⟩ := z_arrA (ty := .long) (fun C h => by cases h) (hts _ zl_a.2.1)
  obtain ⟨cS, hS⟩ := z_arrO (hts _ zl_a.2.2)
  obtain ⟨t3, e3, hT3⟩ := va_Tof (A := fun q : Nat => s.heap.size ≤ q) (N := 6) (f := fun j => .int (zka j)) (by decide) (hs _ zf_k.1) (va_eqt (hs _ zf_k.2.1)) (fun j hj => va_eqt (hs _ (zf_k.2.2 ⟨j, hj⟩))) hA
  obtain ⟨t4, e4, hT4⟩ := va_Tof (A := fun q : Nat => s.heap.size ≤ q) (N := 8) (f := fun j => .int (zfa j)) (by decide) (hs _ zf_f.1) (va_eqt (hs _ zf_f.2.1)) (fun j hj => va_eqt (hs _ (zf_f.2.2 ⟨j, hj⟩))) hA
  obtain ⟨t5, e5, hT5⟩ := va_Tof (A := fun q : Nat => s.heap.size ≤ q) (N := 8) (f := fun j => .int (zwt j)) (by decide) (hs _ zf_w.1) (va_eqt (hs _ zf_w.2.1)) (fun j hj => va_eqt (hs _ (zf_w.2.2 ⟨j, hj⟩))) hA
  obtain ⟨adK, adV, hSt, hEv⟩ := vk_Sof (A := fun q : Nat => s.heap.size ≤ q) (N := 20) (tm := ztm) (len := zlen) (byt := zbyt) (args := args) (s := s) (fun i hi => Nat.lt_of_le_of_lt (zlen_lt hi) (by decide)) (fun i hi => hs _ (zf_ex ⟨i, hi⟩)) (fun i hi => hs _ (zf_co ⟨i, hi⟩)) (fun i hi => hs _ (zf_ar ⟨i, hi⟩)) (fun i hi => hs _ (zf_le ⟨i, hi⟩)) (fun i hi j hj => hs _ (zf_el ⟨i, hi⟩ ⟨j, Nat.lt_of_lt_of_le hj (zlen_lt hi)⟩ hj)) (fun i j hi hj hij => (zf_ne i hi j hj hij).imp (hs _) (hs _)) hA
  obtain ⟨c0, i0, hK0⟩ := u_known (C := "SixFellows$Road") (T := T_Rd) (N := 12) (n := 12) htz hc_Rd.2.1 (htz _ hI_Rd)
  obtain ⟨c1, i1, hK1⟩ := u_known (C := "SixFellows$Sheet") (T := T_Sh) (N := 3) (n := 3) htz hc_Sh.2.1 (htz _ hI_Sh)
  obtain ⟨c2, i2, hK2⟩ := u_known (C := "SixFellows$Tape") (T := T_Tp) (N := 6) (n := 6) htz hc_Tp.2.1 (htz _ hI_Tp)
  obtain ⟨c3, i3, hK3⟩ := u_known (C := "SixFellows") (T := T_Sx) (N := 8) (n := 8) htz hc_Sx.2.1 (htz _ hI_Sx)
  obtain ⟨c4, i4, hK4⟩ := u_known (C := "SixFellowsModel") (T := T_Mo) (N := 21) (n := 21) htz hc_Mo.2.1 (htz _ hI_Mo)
  refine ⟨fun x y => if x = 0 then (if y = 0 then cI else if y = 1 then cJ else if y = 2 then cS else if y = 3 then t3 else if y = 4 then t4 else t5) else if x = 1 then adK y else adV y, (fun k => if k = 0 then c0 else if k = 1 then c1 else if k = 2 then c2 else if k = 3 then c3 else c4, fun k => if k = 0 then i0 else if k = 1 then i1 else if k = 2 then i2 else if k = 3 then i3 else i4), ⟨?_, ?_, ⟨?_, ?_⟩, ⟨?_, ?_⟩, ⟨?_, ?_⟩, ⟨?_, ?_⟩, ?_⟩, ⟨?_, ?_⟩, hts _ zl_a.2.2⟩
  · intro q hq
    obtain ⟨i, hi⟩ := List.mem_iff_getElem?.mp hq
    have hl : i < zNl.length := (List.getElem?_eq_some_iff.mp hi).1
    have hg : zNl.getD i zN0 = q := by rw [List.getD_eq_getElem?_getD, hi]; rfl
    have hm := znl_ok ⟨i, hl⟩
    dsimp only at hm
    rw [hg] at hm
    exact va_Nw.of rfl (hts _ (List.mem_of_getElem? hm))
  · intro i q hq
    have hl : i < 20 := (List.getElem?_eq_some_iff.mp hq).1
    have hg : zRl.getD i zR0 = q := by rw [List.getD_eq_getElem?_getD, hq]; rfl
    have hm := zrl_ok ⟨i, hl⟩
    have he := hEv i hl
    dsimp only at hm
    unfold ztm at he
    rw [hg] at hm he
    exact vk_R.of (hts _ (List.mem_of_getElem? hm)) he
  · exact va_Zof (hts _ zl_k.1) (hts _ zl_k.2.2.2) e3 hA
  · exact hT3
  · exact va_Zof (hts _ zl_k.2.1) (hts _ zl_k.2.2.2) e4 hA
  · exact hT4
  · exact va_Zof (hts _ zl_k.2.2.1) (hts _ zl_k.2.2.2) e5 hA
  · exact hT5
  · exact va_Zof (hts _ zl_c.1) (hts _ zl_c.2.1) (va_eqi (hs _ zf_c.1)) hA
  · exact va_Zqof (hts _ zl_c.2.2.1) (hts _ zl_c.2.2.2) (hs _ zf_c.2) hA
  · exact hSt
  · intro k q hq
    match k, hq with
    | 0, hq => cases hq; exact hK0
    | 1, hq => cases hq; exact hK1
    | 2, hq => cases hq; exact hK2
    | 3, hq => cases hq; exact hK3
    | 4, hq => cases hq; exact hK4
    | k + 5, hq => exact absurd (List.getElem?_eq_some_iff.mp hq).1 (by simp [zCl])
  · intro k q hq
    match k, hq with
    | 0, hq => cases hq; exact hI
    | 1, hq => cases hq; exact hJ
    | 2, hq => cases hq; exact hS
    | k + 3, hq => exact absurd (List.getElem?_eq_some_iff.mp hq).1 (by simp)
