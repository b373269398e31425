/-! ===== words for constructors ===== -/
theorem cl_L_8 : Cond.classLink RL 8 RX12 ∈ g_tb := List.mem_filter.mpr ⟨List.mem_of_getElem? (i := 132) (by decide +kernel), by decide +kernel⟩
theorem ii_X12 : Cond.instantiable RX12 13 ∈ g_tb := List.mem_filter.mpr ⟨List.mem_of_getElem? (i := 133) (by decide +kernel), by decide +kernel⟩
theorem mo_X12_1 : Cond.methodLink RX12 1 Lib.objectInit ∈ g_tb := List.mem_filter.mpr ⟨List.mem_of_getElem? (i := 137) (by decide +kernel), by decide +kernel⟩
theorem mi_obj : Cond.instanceMethod Lib.objectInit ∈ g_tb := List.mem_filter.mpr ⟨List.mem_of_getElem? (i := 138) (by decide +kernel), by decide +kernel⟩
theorem mc_obj : Cond.code Lib.objectInit ⟨#[0xb1]⟩ 1 none ∈ g_tb := List.mem_filter.mpr ⟨List.mem_of_getElem? (i := 139) (by decide +kernel), by decide +kernel⟩
theorem cl_X12_7 : Cond.classLink RX12 7 RX8 ∈ g_tb := List.mem_filter.mpr ⟨List.mem_of_getElem? (i := 140) (by decide +kernel), by decide +kernel⟩
theorem ii_X8 : Cond.instantiable RX8 4 ∈ g_tb := List.mem_filter.mpr ⟨List.mem_of_getElem? (i := 141) (by decide +kernel), by decide +kernel⟩
theorem mo_X8_3 : Cond.methodLink RX8 3 Lib.objectInit ∈ g_tb := List.mem_filter.mpr ⟨List.mem_of_getElem? (i := 145) (by decide +kernel), by decide +kernel⟩
theorem ac_int : Cond.arrayClass .int ∈ g_tb := List.mem_filter.mpr ⟨List.mem_of_getElem? (i := 164) (by decide +kernel), by decide +kernel⟩
theorem cl_X12_16 : Cond.classLink RX12 16 RX4 ∈ g_tb := List.mem_filter.mpr ⟨List.mem_of_getElem? (i := 165) (by decide +kernel), by decide +kernel⟩
theorem ii_X4 : Cond.instantiable RX4 13 ∈ g_tb := List.mem_filter.mpr ⟨List.mem_of_getElem? (i := 167) (by decide +kernel), by decide +kernel⟩
theorem mo_X4_3 : Cond.methodLink RX4 3 Lib.objectInit ∈ g_tb := List.mem_filter.mpr ⟨List.mem_of_getElem? (i := 171) (by decide +kernel), by decide +kernel⟩
theorem cl_X4_9 : Cond.classLink RX4 9 "[[I" ∈ g_tb := List.mem_filter.mpr ⟨List.mem_of_getElem? (i := 172) (by decide +kernel), by decide +kernel⟩
theorem cl_X12_23 : Cond.classLink RX12 23 RX9 ∈ g_tb := List.mem_filter.mpr ⟨List.mem_of_getElem? (i := 264) (by decide +kernel), by decide +kernel⟩
theorem ii_X9 : Cond.instantiable RX9 3 ∈ g_tb := List.mem_filter.mpr ⟨List.mem_of_getElem? (i := 266) (by decide +kernel), by decide +kernel⟩
theorem mo_X9_1 : Cond.methodLink RX9 1 Lib.objectInit ∈ g_tb := List.mem_filter.mpr ⟨List.mem_of_getElem? (i := 270) (by decide +kernel), by decide +kernel⟩
theorem cl_X12_30 : Cond.classLink RX12 30 RX5 ∈ g_tb := List.mem_filter.mpr ⟨List.mem_of_getElem? (i := 282) (by decide +kernel), by decide +kernel⟩
theorem ii_X5 : Cond.instantiable RX5 6 ∈ g_tb := List.mem_filter.mpr ⟨List.mem_of_getElem? (i := 283) (by decide +kernel), by decide +kernel⟩
theorem mo_X5_3 : Cond.methodLink RX5 3 Lib.objectInit ∈ g_tb := List.mem_filter.mpr ⟨List.mem_of_getElem? (i := 287) (by decide +kernel), by decide +kernel⟩
theorem cl_X5_9 : Cond.classLink RX5 9 RX3 ∈ g_tb := List.mem_filter.mpr ⟨List.mem_of_getElem? (i := 288) (by decide +kernel), by decide +kernel⟩
theorem ii_X3 : Cond.instantiable RX3 5 ∈ g_tb := List.mem_filter.mpr ⟨List.mem_of_getElem? (i := 289) (by decide +kernel), by decide +kernel⟩
theorem sl_X5_13 : Cond.fieldLink RX5 13 "OtherSelves$LifeReader" "LEAF_LEAST" "[I" ∈ g_tb := List.mem_filter.mpr ⟨List.mem_of_getElem? (i := 291) (by decide +kernel), by decide +kernel⟩
theorem sl_X5_19 : Cond.fieldLink RX5 19 "OtherSelves$LifeReader" "LEAF_MOST" "[I" ∈ g_tb := List.mem_filter.mpr ⟨List.mem_of_getElem? (i := 293) (by decide +kernel), by decide +kernel⟩
theorem sl_X5_22 : Cond.fieldLink RX5 22 "OtherSelves$LifeReader" "LEAF_USUAL" "[I" ∈ g_tb := List.mem_filter.mpr ⟨List.mem_of_getElem? (i := 295) (by decide +kernel), by decide +kernel⟩
theorem mo_X3_3 : Cond.methodLink RX3 3 Lib.objectInit ∈ g_tb := List.mem_filter.mpr ⟨List.mem_of_getElem? (i := 300) (by decide +kernel), by decide +kernel⟩
theorem ac_byte : Cond.arrayClass .byte ∈ g_tb := List.mem_filter.mpr ⟨List.mem_of_getElem? (i := 318) (by decide +kernel), by decide +kernel⟩
theorem sl_X5_34 : Cond.fieldLink RX5 34 "OtherSelves$LifeReader" "FORK_LEAST" "[I" ∈ g_tb := List.mem_filter.mpr ⟨List.mem_of_getElem? (i := 320) (by decide +kernel), by decide +kernel⟩
theorem sl_X5_37 : Cond.fieldLink RX5 37 "OtherSelves$LifeReader" "FORK_MOST" "[I" ∈ g_tb := List.mem_filter.mpr ⟨List.mem_of_getElem? (i := 322) (by decide +kernel), by decide +kernel⟩
theorem sl_X5_40 : Cond.fieldLink RX5 40 "OtherSelves$LifeReader" "FORK_USUAL" "[I" ∈ g_tb := List.mem_filter.mpr ⟨List.mem_of_getElem? (i := 324) (by decide +kernel), by decide +kernel⟩
theorem sl_X5_48 : Cond.fieldLink RX5 48 "OtherSelves$LifeReader" "BRANCH_LEAST" "[I" ∈ g_tb := List.mem_filter.mpr ⟨List.mem_of_getElem? (i := 327) (by decide +kernel), by decide +kernel⟩
theorem sl_X5_51 : Cond.fieldLink RX5 51 "OtherSelves$LifeReader" "BRANCH_MOST" "[I" ∈ g_tb := List.mem_filter.mpr ⟨List.mem_of_getElem? (i := 329) (by decide +kernel), by decide +kernel⟩
theorem sl_X5_54 : Cond.fieldLink RX5 54 "OtherSelves$LifeReader" "BRANCH_USUAL" "[I" ∈ g_tb := List.mem_filter.mpr ⟨List.mem_of_getElem? (i := 331) (by decide +kernel), by decide +kernel⟩
theorem cl_X12_39 : Cond.classLink RX12 39 RX10 ∈ g_tb := List.mem_filter.mpr ⟨List.mem_of_getElem? (i := 352) (by decide +kernel), by decide +kernel⟩
theorem ii_X10 : Cond.instantiable RX10 1 ∈ g_tb := List.mem_filter.mpr ⟨List.mem_of_getElem? (i := 353) (by decide +kernel), by decide +kernel⟩
theorem mo_X10_3 : Cond.methodLink RX10 3 Lib.objectInit ∈ g_tb := List.mem_filter.mpr ⟨List.mem_of_getElem? (i := 357) (by decide +kernel), by decide +kernel⟩
theorem cl_X12_46 : Cond.classLink RX12 46 RX7 ∈ g_tb := List.mem_filter.mpr ⟨List.mem_of_getElem? (i := 362) (by decide +kernel), by decide +kernel⟩
theorem ii_X7 : Cond.instantiable RX7 4 ∈ g_tb := List.mem_filter.mpr ⟨List.mem_of_getElem? (i := 363) (by decide +kernel), by decide +kernel⟩
theorem mo_X7_3 : Cond.methodLink RX7 3 Lib.objectInit ∈ g_tb := List.mem_filter.mpr ⟨List.mem_of_getElem? (i := 367) (by decide +kernel), by decide +kernel⟩
theorem cl_X7_9 : Cond.classLink RX7 9 RX6 ∈ g_tb := List.mem_filter.mpr ⟨List.mem_of_getElem? (i := 368) (by decide +kernel), by decide +kernel⟩
theorem ii_X6 : Cond.instantiable RX6 6 ∈ g_tb := List.mem_filter.mpr ⟨List.mem_of_getElem? (i := 369) (by decide +kernel), by decide +kernel⟩
theorem mo_X6_3 : Cond.methodLink RX6 3 Lib.objectInit ∈ g_tb := List.mem_filter.mpr ⟨List.mem_of_getElem? (i := 373) (by decide +kernel), by decide +kernel⟩
theorem cl_X7_22 : Cond.classLink RX7 22 RX4 ∈ g_tb := List.mem_filter.mpr ⟨List.mem_of_getElem? (i := 398) (by decide +kernel), by decide +kernel⟩
theorem cl_X12_55 : Cond.classLink RX12 55 RX11 ∈ g_tb := List.mem_filter.mpr ⟨List.mem_of_getElem? (i := 420) (by decide +kernel), by decide +kernel⟩
theorem ii_X11 : Cond.instantiable RX11 3 ∈ g_tb := List.mem_filter.mpr ⟨List.mem_of_getElem? (i := 421) (by decide +kernel), by decide +kernel⟩
theorem mo_X11_3 : Cond.methodLink RX11 3 Lib.objectInit ∈ g_tb := List.mem_filter.mpr ⟨List.mem_of_getElem? (i := 425) (by decide +kernel), by decide +kernel⟩
theorem cl_X12_64 : Cond.classLink RX12 64 RX1 ∈ g_tb := List.mem_filter.mpr ⟨List.mem_of_getElem? (i := 437) (by decide +kernel), by decide +kernel⟩
theorem ii_X1 : Cond.instantiable RX1 7 ∈ g_tb := List.mem_filter.mpr ⟨List.mem_of_getElem? (i := 438) (by decide +kernel), by decide +kernel⟩
theorem mo_X1_3 : Cond.methodLink RX1 3 Lib.objectInit ∈ g_tb := List.mem_filter.mpr ⟨List.mem_of_getElem? (i := 442) (by decide +kernel), by decide +kernel⟩
theorem cl_X1_21 : Cond.classLink RX1 21 "[[I" ∈ g_tb := List.mem_filter.mpr ⟨List.mem_of_getElem? (i := 443) (by decide +kernel), by decide +kernel⟩
theorem cl_X12_73 : Cond.classLink RX12 73 RX2 ∈ g_tb := List.mem_filter.mpr ⟨List.mem_of_getElem? (i := 466) (by decide +kernel), by decide +kernel⟩
theorem ii_X2 : Cond.instantiable RX2 5 ∈ g_tb := List.mem_filter.mpr ⟨List.mem_of_getElem? (i := 467) (by decide +kernel), by decide +kernel⟩
theorem mo_X2_3 : Cond.methodLink RX2 3 Lib.objectInit ∈ g_tb := List.mem_filter.mpr ⟨List.mem_of_getElem? (i := 471) (by decide +kernel), by decide +kernel⟩
theorem cl_X12_80 : Cond.classLink RX12 80 RX0 ∈ g_tb := List.mem_filter.mpr ⟨List.mem_of_getElem? (i := 489) (by decide +kernel), by decide +kernel⟩
theorem ii_X0 : Cond.instantiable RX0 4 ∈ g_tb := List.mem_filter.mpr ⟨List.mem_of_getElem? (i := 490) (by decide +kernel), by decide +kernel⟩
theorem mo_X0_3 : Cond.methodLink RX0 3 Lib.objectInit ∈ g_tb := List.mem_filter.mpr ⟨List.mem_of_getElem? (i := 494) (by decide +kernel), by decide +kernel⟩
theorem cl_L_13 : Cond.classLink RL 13 "java/util/NoSuchElementException" ∈ g_tb := List.mem_filter.mpr ⟨List.mem_of_getElem? (i := 1350) (by decide +kernel), by decide +kernel⟩
theorem cl_X12_129 : Cond.classLink RX12 129 "java/util/NoSuchElementException" ∈ g_tb := List.mem_filter.mpr ⟨List.mem_of_getElem? (i := 1355) (by decide +kernel), by decide +kernel⟩
theorem cl_L_16 : Cond.classLink RL 16 RX13 ∈ g_tb := List.mem_filter.mpr ⟨List.mem_of_getElem? (i := 1420) (by decide +kernel), by decide +kernel⟩
theorem ii_X13 : Cond.instantiable RX13 46 ∈ g_tb := List.mem_filter.mpr ⟨List.mem_of_getElem? (i := 1421) (by decide +kernel), by decide +kernel⟩
theorem mo_X13_3 : Cond.methodLink RX13 3 Lib.objectInit ∈ g_tb := List.mem_filter.mpr ⟨List.mem_of_getElem? (i := 1425) (by decide +kernel), by decide +kernel⟩
theorem ac_boolean : Cond.arrayClass .boolean ∈ g_tb := List.mem_filter.mpr ⟨List.mem_of_getElem? (i := 1567) (by decide +kernel), by decide +kernel⟩
theorem ac_long : Cond.arrayClass .long ∈ g_tb := List.mem_filter.mpr ⟨List.mem_of_getElem? (i := 2091) (by decide +kernel), by decide +kernel⟩
