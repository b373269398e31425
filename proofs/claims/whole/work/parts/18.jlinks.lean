theorem ac_nat : Cond.native arraycopyName ∈ g_tb := List.mem_filter.mpr ⟨List.mem_of_getElem? (i := 595) (by decide +kernel), by decide +kernel⟩
theorem ac_sta : Cond.static arraycopyName ∈ g_tb := List.mem_filter.mpr ⟨List.mem_of_getElem? (i := 594) (by decide +kernel), by decide +kernel⟩
theorem ac_ini : Cond.initialized "java/lang/System" ∈ g_tb := List.mem_filter.mpr ⟨List.mem_of_getElem? (i := 120) (by decide +kernel), by decide +kernel⟩
theorem ac_X3_28 : Cond.methodLink RX3 28 arraycopyName ∈ g_tb := List.mem_filter.mpr ⟨List.mem_of_getElem? (i := 593) (by decide +kernel), by decide +kernel⟩
theorem ac_X5_168 : Cond.methodLink RX5 168 arraycopyName ∈ g_tb := List.mem_filter.mpr ⟨List.mem_of_getElem? (i := 717) (by decide +kernel), by decide +kernel⟩
theorem ac_X6_28 : Cond.methodLink RX6 28 arraycopyName ∈ g_tb := List.mem_filter.mpr ⟨List.mem_of_getElem? (i := 868) (by decide +kernel), by decide +kernel⟩
theorem ac_X7_65 : Cond.methodLink RX7 65 arraycopyName ∈ g_tb := List.mem_filter.mpr ⟨List.mem_of_getElem? (i := 954) (by decide +kernel), by decide +kernel⟩
theorem mm_ini : Cond.initialized "java/lang/Math" ∈ g_tb := List.mem_filter.mpr ⟨List.mem_of_getElem? (i := 123) (by decide +kernel), by decide +kernel⟩
theorem mm_sta_mmaxI : Cond.static Lib.Math.max.name ∈ g_tb := List.mem_filter.mpr ⟨List.mem_of_getElem? (i := 626) (by decide +kernel), by decide +kernel⟩
theorem mm_cod_mmaxI : Cond.code Lib.Math.max.name Lib.Math.max.code 2 (some .int) ∈ g_tb := List.mem_filter.mpr ⟨List.mem_of_getElem? (i := 627) (by decide +kernel), by decide +kernel⟩
theorem mm_mmaxI_J1_92 : Cond.methodLink RJ1 92 Lib.Math.max.name ∈ g_tb := List.mem_filter.mpr ⟨List.mem_of_getElem? (i := 625) (by decide +kernel), by decide +kernel⟩
theorem mm_mmaxI_J2_224 : Cond.methodLink RJ2 224 Lib.Math.max.name ∈ g_tb := List.mem_filter.mpr ⟨List.mem_of_getElem? (i := 637) (by decide +kernel), by decide +kernel⟩
theorem mm_mmaxI_X11_83 : Cond.methodLink RX11 83 Lib.Math.max.name ∈ g_tb := List.mem_filter.mpr ⟨List.mem_of_getElem? (i := 1007) (by decide +kernel), by decide +kernel⟩
theorem mm_sta_mmaxL : Cond.static Lib.MathLoose.max_long.x ∈ g_tb := List.mem_filter.mpr ⟨List.mem_of_getElem? (i := 1730) (by decide +kernel), by decide +kernel⟩
theorem mm_cod_mmaxL : Cond.code Lib.MathLoose.max_long.x Lib.MathLoose.max_long.code 4 (some .long) ∈ g_tb := List.mem_filter.mpr ⟨List.mem_of_getElem? (i := 1731) (by decide +kernel), by decide +kernel⟩
theorem mm_mmaxL_X13_157 : Cond.methodLink RX13 157 Lib.MathLoose.max_long.x ∈ g_tb := List.mem_filter.mpr ⟨List.mem_of_getElem? (i := 1729) (by decide +kernel), by decide +kernel⟩
theorem mm_sta_mminL : Cond.static Lib.MathLoose.min_long.x ∈ g_tb := List.mem_filter.mpr ⟨List.mem_of_getElem? (i := 1727) (by decide +kernel), by decide +kernel⟩
theorem mm_cod_mminL : Cond.code Lib.MathLoose.min_long.x Lib.MathLoose.min_long.code 4 (some .long) ∈ g_tb := List.mem_filter.mpr ⟨List.mem_of_getElem? (i := 1728) (by decide +kernel), by decide +kernel⟩
theorem mm_mminL_X13_151 : Cond.methodLink RX13 151 Lib.MathLoose.min_long.x ∈ g_tb := List.mem_filter.mpr ⟨List.mem_of_getElem? (i := 1726) (by decide +kernel), by decide +kernel⟩
