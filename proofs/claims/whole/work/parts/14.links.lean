theorem ni_J0 : Cond.initialized RJ0 ∈ g_tb := List.mem_filter.mpr ⟨List.mem_of_getElem? (i := 121) (by decide +kernel), by decide +kernel⟩
theorem ni_J1 : Cond.initialized RJ1 ∈ g_tb := List.mem_filter.mpr ⟨List.mem_of_getElem? (i := 122) (by decide +kernel), by decide +kernel⟩
theorem ni_J11 : Cond.initialized RJ11 ∈ g_tb := List.mem_filter.mpr ⟨List.mem_of_getElem? (i := 126) (by decide +kernel), by decide +kernel⟩
theorem ni_J2 : Cond.initialized RJ2 ∈ g_tb := List.mem_filter.mpr ⟨List.mem_of_getElem? (i := 124) (by decide +kernel), by decide +kernel⟩
theorem ni_J3 : Cond.initialized RJ3 ∈ g_tb := List.mem_filter.mpr ⟨List.mem_of_getElem? (i := 125) (by decide +kernel), by decide +kernel⟩
theorem ni_J6 : Cond.initialized RJ6 ∈ g_tb := List.mem_filter.mpr ⟨List.mem_of_getElem? (i := 131) (by decide +kernel), by decide +kernel⟩
theorem ni_J9 : Cond.initialized RJ9 ∈ g_tb := List.mem_filter.mpr ⟨List.mem_of_getElem? (i := 123) (by decide +kernel), by decide +kernel⟩
theorem ni_L : Cond.initialized RL ∈ g_tb := List.mem_filter.mpr ⟨List.mem_of_getElem? (i := 105) (by decide +kernel), by decide +kernel⟩
theorem ni_X0 : Cond.initialized RX0 ∈ g_tb := List.mem_filter.mpr ⟨List.mem_of_getElem? (i := 118) (by decide +kernel), by decide +kernel⟩
theorem ni_X1 : Cond.initialized RX1 ∈ g_tb := List.mem_filter.mpr ⟨List.mem_of_getElem? (i := 116) (by decide +kernel), by decide +kernel⟩
theorem ni_X10 : Cond.initialized RX10 ∈ g_tb := List.mem_filter.mpr ⟨List.mem_of_getElem? (i := 112) (by decide +kernel), by decide +kernel⟩
theorem ni_X11 : Cond.initialized RX11 ∈ g_tb := List.mem_filter.mpr ⟨List.mem_of_getElem? (i := 115) (by decide +kernel), by decide +kernel⟩
theorem ni_X12 : Cond.initialized RX12 ∈ g_tb := List.mem_filter.mpr ⟨List.mem_of_getElem? (i := 106) (by decide +kernel), by decide +kernel⟩
theorem ni_X13 : Cond.initialized RX13 ∈ g_tb := List.mem_filter.mpr ⟨List.mem_of_getElem? (i := 119) (by decide +kernel), by decide +kernel⟩
theorem ni_X2 : Cond.initialized RX2 ∈ g_tb := List.mem_filter.mpr ⟨List.mem_of_getElem? (i := 117) (by decide +kernel), by decide +kernel⟩
theorem ni_X3 : Cond.initialized RX3 ∈ g_tb := List.mem_filter.mpr ⟨List.mem_of_getElem? (i := 111) (by decide +kernel), by decide +kernel⟩
theorem ni_X4 : Cond.initialized RX4 ∈ g_tb := List.mem_filter.mpr ⟨List.mem_of_getElem? (i := 108) (by decide +kernel), by decide +kernel⟩
theorem ni_X5 : Cond.initialized RX5 ∈ g_tb := List.mem_filter.mpr ⟨List.mem_of_getElem? (i := 110) (by decide +kernel), by decide +kernel⟩
theorem ni_X6 : Cond.initialized RX6 ∈ g_tb := List.mem_filter.mpr ⟨List.mem_of_getElem? (i := 114) (by decide +kernel), by decide +kernel⟩
theorem ni_X7 : Cond.initialized RX7 ∈ g_tb := List.mem_filter.mpr ⟨List.mem_of_getElem? (i := 113) (by decide +kernel), by decide +kernel⟩
theorem ni_X8 : Cond.initialized RX8 ∈ g_tb := List.mem_filter.mpr ⟨List.mem_of_getElem? (i := 107) (by decide +kernel), by decide +kernel⟩
theorem ni_X9 : Cond.initialized RX9 ∈ g_tb := List.mem_filter.mpr ⟨List.mem_of_getElem? (i := 109) (by decide +kernel), by decide +kernel⟩
theorem my_X0_init : g_my yX0_init cX0_init 2 none 1 := ⟨List.mem_filter.mpr ⟨List.mem_of_getElem? (i := 493) (by decide +kernel), by decide +kernel⟩, ni_X0, by decide +kernel, by decide +kernel, by decide +kernel⟩
theorem mi_X0_init : Cond.instanceMethod yX0_init ∈ g_tb := List.mem_filter.mpr ⟨List.mem_of_getElem? (i := 492) (by decide +kernel), by decide +kernel⟩
theorem my_X0_putBy : g_my yX0_putBy cX0_putBy 3 (some .int) 1 := ⟨List.mem_filter.mpr ⟨List.mem_of_getElem? (i := 1284) (by decide +kernel), by decide +kernel⟩, ni_X0, by decide +kernel, by decide +kernel, by decide +kernel⟩
theorem mv_X0_putBy : g_mv yX0_putBy := ⟨List.mem_filter.mpr ⟨List.mem_of_getElem? (i := 1282) (by decide +kernel), by decide +kernel⟩, List.mem_filter.mpr ⟨List.mem_of_getElem? (i := 1283) (by decide +kernel), by decide +kernel⟩⟩
theorem my_X0_howMany : g_my yX0_howMany cX0_howMany 7 (some .int) 3 := ⟨List.mem_filter.mpr ⟨List.mem_of_getElem? (i := 1325) (by decide +kernel), by decide +kernel⟩, ni_X0, by decide +kernel, by decide +kernel, by decide +kernel⟩
theorem mv_X0_howMany : g_mv yX0_howMany := ⟨List.mem_filter.mpr ⟨List.mem_of_getElem? (i := 1323) (by decide +kernel), by decide +kernel⟩, List.mem_filter.mpr ⟨List.mem_of_getElem? (i := 1324) (by decide +kernel), by decide +kernel⟩⟩
theorem my_X0_draw : g_my yX0_draw cX0_draw 2 (some .int) 1 := ⟨List.mem_filter.mpr ⟨List.mem_of_getElem? (i := 1298) (by decide +kernel), by decide +kernel⟩, ni_X0, by decide +kernel, by decide +kernel, by decide +kernel⟩
theorem mv_X0_draw : g_mv yX0_draw := ⟨List.mem_filter.mpr ⟨List.mem_of_getElem? (i := 1297) (by decide +kernel), by decide +kernel⟩, List.mem_filter.mpr ⟨List.mem_of_getElem? (i := 37) (by decide +kernel), by decide +kernel⟩⟩
theorem my_X0_drawnSelf : g_my yX0_drawnSelf cX0_drawnSelf 6 (some .int) 0 := ⟨List.mem_filter.mpr ⟨List.mem_of_getElem? (i := 1288) (by decide +kernel), by decide +kernel⟩, ni_X0, by decide +kernel, by decide +kernel, by decide +kernel⟩
theorem mv_X0_drawnSelf : g_mv yX0_drawnSelf := ⟨List.mem_filter.mpr ⟨List.mem_of_getElem? (i := 1287) (by decide +kernel), by decide +kernel⟩, List.mem_filter.mpr ⟨List.mem_of_getElem? (i := 35) (by decide +kernel), by decide +kernel⟩⟩
theorem my_X0_drawnBranch : g_my yX0_drawnBranch cX0_drawnBranch 4 (some .int) 1 := ⟨List.mem_filter.mpr ⟨List.mem_of_getElem? (i := 1292) (by decide +kernel), by decide +kernel⟩, ni_X0, by decide +kernel, by decide +kernel, by decide +kernel⟩
theorem mv_X0_drawnBranch : g_mv yX0_drawnBranch := ⟨List.mem_filter.mpr ⟨List.mem_of_getElem? (i := 1291) (by decide +kernel), by decide +kernel⟩, List.mem_filter.mpr ⟨List.mem_of_getElem? (i := 36) (by decide +kernel), by decide +kernel⟩⟩
theorem my_X0_branchAt : g_my yX0_branchAt cX0_branchAt 7 (some .int) 4 := ⟨List.mem_filter.mpr ⟨List.mem_of_getElem? (i := 1304) (by decide +kernel), by decide +kernel⟩, ni_X0, by decide +kernel, by decide +kernel, by decide +kernel⟩
theorem mv_X0_branchAt : g_mv yX0_branchAt := ⟨List.mem_filter.mpr ⟨List.mem_of_getElem? (i := 1303) (by decide +kernel), by decide +kernel⟩, List.mem_filter.mpr ⟨List.mem_of_getElem? (i := 38) (by decide +kernel), by decide +kernel⟩⟩
theorem my_X1_init : g_my yX1_init cX1_init 3 none 2 := ⟨List.mem_filter.mpr ⟨List.mem_of_getElem? (i := 441) (by decide +kernel), by decide +kernel⟩, ni_X1, by decide +kernel, by decide +kernel, by decide +kernel⟩
theorem mi_X1_init : Cond.instanceMethod yX1_init ∈ g_tb := List.mem_filter.mpr ⟨List.mem_of_getElem? (i := 440) (by decide +kernel), by decide +kernel⟩
theorem my_X1_shares : g_my yX1_shares cX1_shares 2 (some .boolean) 1 := ⟨List.mem_filter.mpr ⟨List.mem_of_getElem? (i := 1056) (by decide +kernel), by decide +kernel⟩, ni_X1, by decide +kernel, by decide +kernel, by decide +kernel⟩
theorem mv_X1_shares : g_mv yX1_shares := ⟨List.mem_filter.mpr ⟨List.mem_of_getElem? (i := 1055) (by decide +kernel), by decide +kernel⟩, List.mem_filter.mpr ⟨List.mem_of_getElem? (i := 23) (by decide +kernel), by decide +kernel⟩⟩
theorem my_X1_weigh : g_my yX1_weigh cX1_weigh 4 (some .long) 0 := ⟨List.mem_filter.mpr ⟨List.mem_of_getElem? (i := 1051) (by decide +kernel), by decide +kernel⟩, ni_X1, by decide +kernel, by decide +kernel, by decide +kernel⟩
theorem mv_X1_weigh : g_mv yX1_weigh := ⟨List.mem_filter.mpr ⟨List.mem_of_getElem? (i := 1050) (by decide +kernel), by decide +kernel⟩, List.mem_filter.mpr ⟨List.mem_of_getElem? (i := 22) (by decide +kernel), by decide +kernel⟩⟩
theorem my_X1_shareOf : g_my yX1_shareOf cX1_shareOf 9 (some .int) 2 := ⟨List.mem_filter.mpr ⟨List.mem_of_getElem? (i := 1047) (by decide +kernel), by decide +kernel⟩, ni_X1, by decide +kernel, by decide +kernel, by decide +kernel⟩
theorem mv_X1_shareOf : g_mv yX1_shareOf := ⟨List.mem_filter.mpr ⟨List.mem_of_getElem? (i := 1045) (by decide +kernel), by decide +kernel⟩, List.mem_filter.mpr ⟨List.mem_of_getElem? (i := 1046) (by decide +kernel), by decide +kernel⟩⟩
theorem my_X1_demandOf : g_my yX1_demandOf cX1_demandOf 3 (some .int) 1 := ⟨List.mem_filter.mpr ⟨List.mem_of_getElem? (i := 1074) (by decide +kernel), by decide +kernel⟩, ni_X1, by decide +kernel, by decide +kernel, by decide +kernel⟩
theorem mv_X1_demandOf : g_mv yX1_demandOf := ⟨List.mem_filter.mpr ⟨List.mem_of_getElem? (i := 1072) (by decide +kernel), by decide +kernel⟩, List.mem_filter.mpr ⟨List.mem_of_getElem? (i := 1073) (by decide +kernel), by decide +kernel⟩⟩
theorem my_X1_demands : g_my yX1_demands cX1_demands 3 (some .int) 0 := ⟨List.mem_filter.mpr ⟨List.mem_of_getElem? (i := 1082) (by decide +kernel), by decide +kernel⟩, ni_X1, by decide +kernel, by decide +kernel, by decide +kernel⟩
theorem mv_X1_demands : g_mv yX1_demands := ⟨List.mem_filter.mpr ⟨List.mem_of_getElem? (i := 1080) (by decide +kernel), by decide +kernel⟩, List.mem_filter.mpr ⟨List.mem_of_getElem? (i := 1081) (by decide +kernel), by decide +kernel⟩⟩
theorem my_X1_fewestAway : g_my yX1_fewestAway cX1_fewestAway 5 (some .int) 1 := ⟨List.mem_filter.mpr ⟨List.mem_of_getElem? (i := 1091) (by decide +kernel), by decide +kernel⟩, ni_X1, by decide +kernel, by decide +kernel, by decide +kernel⟩
theorem mv_X1_fewestAway : g_mv yX1_fewestAway := ⟨List.mem_filter.mpr ⟨List.mem_of_getElem? (i := 1089) (by decide +kernel), by decide +kernel⟩, List.mem_filter.mpr ⟨List.mem_of_getElem? (i := 1090) (by decide +kernel), by decide +kernel⟩⟩
theorem my_X1_askedBy : g_my yX1_askedBy cX1_askedBy 4 (some .int) 1 := ⟨List.mem_filter.mpr ⟨List.mem_of_getElem? (i := 1097) (by decide +kernel), by decide +kernel⟩, ni_X1, by decide +kernel, by decide +kernel, by decide +kernel⟩
theorem mv_X1_askedBy : g_mv yX1_askedBy := ⟨List.mem_filter.mpr ⟨List.mem_of_getElem? (i := 1096) (by decide +kernel), by decide +kernel⟩, List.mem_filter.mpr ⟨List.mem_of_getElem? (i := 24) (by decide +kernel), by decide +kernel⟩⟩
theorem my_X1_hear : g_my yX1_hear cX1_hear 4 none 1 := ⟨List.mem_filter.mpr ⟨List.mem_of_getElem? (i := 1109) (by decide +kernel), by decide +kernel⟩, ni_X1, by decide +kernel, by decide +kernel, by decide +kernel⟩
theorem mv_X1_hear : g_mv yX1_hear := ⟨List.mem_filter.mpr ⟨List.mem_of_getElem? (i := 1107) (by decide +kernel), by decide +kernel⟩, List.mem_filter.mpr ⟨List.mem_of_getElem? (i := 1108) (by decide +kernel), by decide +kernel⟩⟩
theorem my_X1_isVoter : g_my yX1_isVoter cX1_isVoter 2 (some .boolean) 1 := ⟨List.mem_filter.mpr ⟨List.mem_of_getElem? (i := 1114) (by decide +kernel), by decide +kernel⟩, ni_X1, by decide +kernel, by decide +kernel, by decide +kernel⟩
theorem mv_X1_isVoter : g_mv yX1_isVoter := ⟨List.mem_filter.mpr ⟨List.mem_of_getElem? (i := 1113) (by decide +kernel), by decide +kernel⟩, List.mem_filter.mpr ⟨List.mem_of_getElem? (i := 25) (by decide +kernel), by decide +kernel⟩⟩
theorem my_X1_votedFor : g_my yX1_votedFor cX1_votedFor 5 (some .int) 2 := ⟨List.mem_filter.mpr ⟨List.mem_of_getElem? (i := 1118) (by decide +kernel), by decide +kernel⟩, ni_X1, by decide +kernel, by decide +kernel, by decide +kernel⟩
theorem mv_X1_votedFor : g_mv yX1_votedFor := ⟨List.mem_filter.mpr ⟨List.mem_of_getElem? (i := 1117) (by decide +kernel), by decide +kernel⟩, List.mem_filter.mpr ⟨List.mem_of_getElem? (i := 26) (by decide +kernel), by decide +kernel⟩⟩
theorem my_X1_winner : g_my yX1_winner cX1_winner 5 (some .int) 2 := ⟨List.mem_filter.mpr ⟨List.mem_of_getElem? (i := 1105) (by decide +kernel), by decide +kernel⟩, ni_X1, by decide +kernel, by decide +kernel, by decide +kernel⟩
theorem mv_X1_winner : g_mv yX1_winner := ⟨List.mem_filter.mpr ⟨List.mem_of_getElem? (i := 1103) (by decide +kernel), by decide +kernel⟩, List.mem_filter.mpr ⟨List.mem_of_getElem? (i := 1104) (by decide +kernel), by decide +kernel⟩⟩
theorem my_X1_ahead : g_my yX1_ahead cX1_ahead 5 (some .int) 2 := ⟨List.mem_filter.mpr ⟨List.mem_of_getElem? (i := 1127) (by decide +kernel), by decide +kernel⟩, ni_X1, by decide +kernel, by decide +kernel, by decide +kernel⟩
theorem mv_X1_ahead : g_mv yX1_ahead := ⟨List.mem_filter.mpr ⟨List.mem_of_getElem? (i := 1125) (by decide +kernel), by decide +kernel⟩, List.mem_filter.mpr ⟨List.mem_of_getElem? (i := 1126) (by decide +kernel), by decide +kernel⟩⟩
theorem my_X1_beatsAll : g_my yX1_beatsAll cX1_beatsAll 5 (some .int) 1 := ⟨List.mem_filter.mpr ⟨List.mem_of_getElem? (i := 1138) (by decide +kernel), by decide +kernel⟩, ni_X1, by decide +kernel, by decide +kernel, by decide +kernel⟩
theorem mv_X1_beatsAll : g_mv yX1_beatsAll := ⟨List.mem_filter.mpr ⟨List.mem_of_getElem? (i := 1136) (by decide +kernel), by decide +kernel⟩, List.mem_filter.mpr ⟨List.mem_of_getElem? (i := 1137) (by decide +kernel), by decide +kernel⟩⟩
theorem my_X1_leastRing : g_my yX1_leastRing cX1_leastRing 5 (some .int) 1 := ⟨List.mem_filter.mpr ⟨List.mem_of_getElem? (i := 1147) (by decide +kernel), by decide +kernel⟩, ni_X1, by decide +kernel, by decide +kernel, by decide +kernel⟩
theorem mv_X1_leastRing : g_mv yX1_leastRing := ⟨List.mem_filter.mpr ⟨List.mem_of_getElem? (i := 1145) (by decide +kernel), by decide +kernel⟩, List.mem_filter.mpr ⟨List.mem_of_getElem? (i := 1146) (by decide +kernel), by decide +kernel⟩⟩
theorem my_X1_ringEnd : g_my yX1_ringEnd cX1_ringEnd 5 (some .int) 3 := ⟨List.mem_filter.mpr ⟨List.mem_of_getElem? (i := 1151) (by decide +kernel), by decide +kernel⟩, ni_X1, by decide +kernel, by decide +kernel, by decide +kernel⟩
theorem mv_X1_ringEnd : g_mv yX1_ringEnd := ⟨List.mem_filter.mpr ⟨List.mem_of_getElem? (i := 1150) (by decide +kernel), by decide +kernel⟩, List.mem_filter.mpr ⟨List.mem_of_getElem? (i := 27) (by decide +kernel), by decide +kernel⟩⟩
theorem my_X2_init : g_my yX2_init cX2_init 2 none 1 := ⟨List.mem_filter.mpr ⟨List.mem_of_getElem? (i := 470) (by decide +kernel), by decide +kernel⟩, ni_X2, by decide +kernel, by decide +kernel, by decide +kernel⟩
theorem mi_X2_init : Cond.instanceMethod yX2_init ∈ g_tb := List.mem_filter.mpr ⟨List.mem_of_getElem? (i := 469) (by decide +kernel), by decide +kernel⟩
theorem my_X2_factsOf : g_my yX2_factsOf cX2_factsOf 2 (some .int) 1 := ⟨List.mem_filter.mpr ⟨List.mem_of_getElem? (i := 1163) (by decide +kernel), by decide +kernel⟩, ni_X2, by decide +kernel, by decide +kernel, by decide +kernel⟩
theorem mv_X2_factsOf : g_mv yX2_factsOf := ⟨List.mem_filter.mpr ⟨List.mem_of_getElem? (i := 1162) (by decide +kernel), by decide +kernel⟩, List.mem_filter.mpr ⟨List.mem_of_getElem? (i := 28) (by decide +kernel), by decide +kernel⟩⟩
theorem my_X2_common : g_my yX2_common cX2_common 4 (some .int) 1 := ⟨List.mem_filter.mpr ⟨List.mem_of_getElem? (i := 1159) (by decide +kernel), by decide +kernel⟩, ni_X2, by decide +kernel, by decide +kernel, by decide +kernel⟩
theorem mv_X2_common : g_mv yX2_common := ⟨List.mem_filter.mpr ⟨List.mem_of_getElem? (i := 1157) (by decide +kernel), by decide +kernel⟩, List.mem_filter.mpr ⟨List.mem_of_getElem? (i := 1158) (by decide +kernel), by decide +kernel⟩⟩
theorem my_X2_sameAs : g_my yX2_sameAs cX2_sameAs 5 (some .int) 1 := ⟨List.mem_filter.mpr ⟨List.mem_of_getElem? (i := 1175) (by decide +kernel), by decide +kernel⟩, ni_X2, by decide +kernel, by decide +kernel, by decide +kernel⟩
theorem mv_X2_sameAs : g_mv yX2_sameAs := ⟨List.mem_filter.mpr ⟨List.mem_of_getElem? (i := 1173) (by decide +kernel), by decide +kernel⟩, List.mem_filter.mpr ⟨List.mem_of_getElem? (i := 1174) (by decide +kernel), by decide +kernel⟩⟩
theorem my_X2_fewestTelling : g_my yX2_fewestTelling cX2_fewestTelling 5 (some .int) 1 := ⟨List.mem_filter.mpr ⟨List.mem_of_getElem? (i := 1171) (by decide +kernel), by decide +kernel⟩, ni_X2, by decide +kernel, by decide +kernel, by decide +kernel⟩
theorem mv_X2_fewestTelling : g_mv yX2_fewestTelling := ⟨List.mem_filter.mpr ⟨List.mem_of_getElem? (i := 1169) (by decide +kernel), by decide +kernel⟩, List.mem_filter.mpr ⟨List.mem_of_getElem? (i := 1170) (by decide +kernel), by decide +kernel⟩⟩
theorem my_X2_tells : g_my yX2_tells cX2_tells 5 (some .boolean) 3 := ⟨List.mem_filter.mpr ⟨List.mem_of_getElem? (i := 1186) (by decide +kernel), by decide +kernel⟩, ni_X2, by decide +kernel, by decide +kernel, by decide +kernel⟩
theorem mv_X2_tells : g_mv yX2_tells := ⟨List.mem_filter.mpr ⟨List.mem_of_getElem? (i := 1185) (by decide +kernel), by decide +kernel⟩, List.mem_filter.mpr ⟨List.mem_of_getElem? (i := 29) (by decide +kernel), by decide +kernel⟩⟩
theorem my_X2_fewestForAll : g_my yX2_fewestForAll cX2_fewestForAll 4 (some .int) 0 := ⟨List.mem_filter.mpr ⟨List.mem_of_getElem? (i := 1199) (by decide +kernel), by decide +kernel⟩, ni_X2, by decide +kernel, by decide +kernel, by decide +kernel⟩
theorem mv_X2_fewestForAll : g_mv yX2_fewestForAll := ⟨List.mem_filter.mpr ⟨List.mem_of_getElem? (i := 1197) (by decide +kernel), by decide +kernel⟩, List.mem_filter.mpr ⟨List.mem_of_getElem? (i := 1198) (by decide +kernel), by decide +kernel⟩⟩
theorem my_X2_reachesAll : g_my yX2_reachesAll cX2_reachesAll 4 (some .boolean) 2 := ⟨List.mem_filter.mpr ⟨List.mem_of_getElem? (i := 1203) (by decide +kernel), by decide +kernel⟩, ni_X2, by decide +kernel, by decide +kernel, by decide +kernel⟩
theorem mv_X2_reachesAll : g_mv yX2_reachesAll := ⟨List.mem_filter.mpr ⟨List.mem_of_getElem? (i := 1202) (by decide +kernel), by decide +kernel⟩, List.mem_filter.mpr ⟨List.mem_of_getElem? (i := 30) (by decide +kernel), by decide +kernel⟩⟩
theorem my_X2_leadsTo : g_my yX2_leadsTo cX2_leadsTo 6 (some .boolean) 2 := ⟨List.mem_filter.mpr ⟨List.mem_of_getElem? (i := 1211) (by decide +kernel), by decide +kernel⟩, ni_X2, by decide +kernel, by decide +kernel, by decide +kernel⟩
theorem mv_X2_leadsTo : g_mv yX2_leadsTo := ⟨List.mem_filter.mpr ⟨List.mem_of_getElem? (i := 1209) (by decide +kernel), by decide +kernel⟩, List.mem_filter.mpr ⟨List.mem_of_getElem? (i := 1210) (by decide +kernel), by decide +kernel⟩⟩
theorem my_X2_addClue : g_my yX2_addClue cX2_addClue 4 (some .int) 3 := ⟨List.mem_filter.mpr ⟨List.mem_of_getElem? (i := 1219) (by decide +kernel), by decide +kernel⟩, ni_X2, by decide +kernel, by decide +kernel, by decide +kernel⟩
theorem mv_X2_addClue : g_mv yX2_addClue := ⟨List.mem_filter.mpr ⟨List.mem_of_getElem? (i := 1217) (by decide +kernel), by decide +kernel⟩, List.mem_filter.mpr ⟨List.mem_of_getElem? (i := 1218) (by decide +kernel), by decide +kernel⟩⟩
theorem my_X2_holds : g_my yX2_holds cX2_holds 5 (some .boolean) 2 := ⟨List.mem_filter.mpr ⟨List.mem_of_getElem? (i := 1235) (by decide +kernel), by decide +kernel⟩, ni_X2, by decide +kernel, by decide +kernel, by decide +kernel⟩
theorem mv_X2_holds : g_mv yX2_holds := ⟨List.mem_filter.mpr ⟨List.mem_of_getElem? (i := 1234) (by decide +kernel), by decide +kernel⟩, List.mem_filter.mpr ⟨List.mem_of_getElem? (i := 32) (by decide +kernel), by decide +kernel⟩⟩
theorem my_X2_hasFact : g_my yX2_hasFact cX2_hasFact 3 (some .boolean) 2 := ⟨List.mem_filter.mpr ⟨List.mem_of_getElem? (i := 1239) (by decide +kernel), by decide +kernel⟩, ni_X2, by decide +kernel, by decide +kernel, by decide +kernel⟩
theorem mv_X2_hasFact : g_mv yX2_hasFact := ⟨List.mem_filter.mpr ⟨List.mem_of_getElem? (i := 1238) (by decide +kernel), by decide +kernel⟩, List.mem_filter.mpr ⟨List.mem_of_getElem? (i := 33) (by decide +kernel), by decide +kernel⟩⟩
theorem my_X2_canBe : g_my yX2_canBe cX2_canBe 3 (some .boolean) 1 := ⟨List.mem_filter.mpr ⟨List.mem_of_getElem? (i := 1231) (by decide +kernel), by decide +kernel⟩, ni_X2, by decide +kernel, by decide +kernel, by decide +kernel⟩
theorem mv_X2_canBe : g_mv yX2_canBe := ⟨List.mem_filter.mpr ⟨List.mem_of_getElem? (i := 1230) (by decide +kernel), by decide +kernel⟩, List.mem_filter.mpr ⟨List.mem_of_getElem? (i := 31) (by decide +kernel), by decide +kernel⟩⟩
theorem my_X2_possible : g_my yX2_possible cX2_possible 3 (some .int) 0 := ⟨List.mem_filter.mpr ⟨List.mem_of_getElem? (i := 1227) (by decide +kernel), by decide +kernel⟩, ni_X2, by decide +kernel, by decide +kernel, by decide +kernel⟩
theorem mv_X2_possible : g_mv yX2_possible := ⟨List.mem_filter.mpr ⟨List.mem_of_getElem? (i := 1225) (by decide +kernel), by decide +kernel⟩, List.mem_filter.mpr ⟨List.mem_of_getElem? (i := 1226) (by decide +kernel), by decide +kernel⟩⟩
theorem my_X2_likeliest : g_my yX2_likeliest cX2_likeliest 5 (some .int) 0 := ⟨List.mem_filter.mpr ⟨List.mem_of_getElem? (i := 1246) (by decide +kernel), by decide +kernel⟩, ni_X2, by decide +kernel, by decide +kernel, by decide +kernel⟩
theorem mv_X2_likeliest : g_mv yX2_likeliest := ⟨List.mem_filter.mpr ⟨List.mem_of_getElem? (i := 1244) (by decide +kernel), by decide +kernel⟩, List.mem_filter.mpr ⟨List.mem_of_getElem? (i := 1245) (by decide +kernel), by decide +kernel⟩⟩
theorem my_X2_crossing : g_my yX2_crossing cX2_crossing 9 (some .int) 4 := ⟨List.mem_filter.mpr ⟨List.mem_of_getElem? (i := 1258) (by decide +kernel), by decide +kernel⟩, ni_X2, by decide +kernel, by decide +kernel, by decide +kernel⟩
theorem ms_X2_crossing : Cond.static yX2_crossing ∈ g_tb := List.mem_filter.mpr ⟨List.mem_of_getElem? (i := 1257) (by decide +kernel), by decide +kernel⟩
theorem my_X2_hasInYear : g_my yX2_hasInYear cX2_hasInYear 6 (some .boolean) 4 := ⟨List.mem_filter.mpr ⟨List.mem_of_getElem? (i := 1262) (by decide +kernel), by decide +kernel⟩, ni_X2, by decide +kernel, by decide +kernel, by decide +kernel⟩
theorem ms_X2_hasInYear : Cond.static yX2_hasInYear ∈ g_tb := List.mem_filter.mpr ⟨List.mem_of_getElem? (i := 1261) (by decide +kernel), by decide +kernel⟩
theorem my_X2_crossed : g_my yX2_crossed cX2_crossed 5 (some .int) 3 := ⟨List.mem_filter.mpr ⟨List.mem_of_getElem? (i := 1272) (by decide +kernel), by decide +kernel⟩, ni_X2, by decide +kernel, by decide +kernel, by decide +kernel⟩
theorem ms_X2_crossed : Cond.static yX2_crossed ∈ g_tb := List.mem_filter.mpr ⟨List.mem_of_getElem? (i := 1271) (by decide +kernel), by decide +kernel⟩
theorem my_X2_pairs : g_my yX2_pairs cX2_pairs 4 (some .int) 2 := ⟨List.mem_filter.mpr ⟨List.mem_of_getElem? (i := 1269) (by decide +kernel), by decide +kernel⟩, ni_X2, by decide +kernel, by decide +kernel, by decide +kernel⟩
theorem ms_X2_pairs : Cond.static yX2_pairs ∈ g_tb := List.mem_filter.mpr ⟨List.mem_of_getElem? (i := 1268) (by decide +kernel), by decide +kernel⟩
theorem my_X2_crossesMost : g_my yX2_crossesMost cX2_crossesMost 6 (some .int) 2 := ⟨List.mem_filter.mpr ⟨List.mem_of_getElem? (i := 1276) (by decide +kernel), by decide +kernel⟩, ni_X2, by decide +kernel, by decide +kernel, by decide +kernel⟩
theorem ms_X2_crossesMost : Cond.static yX2_crossesMost ∈ g_tb := List.mem_filter.mpr ⟨List.mem_of_getElem? (i := 1275) (by decide +kernel), by decide +kernel⟩
theorem my_X3_init : g_my yX3_init cX3_init 5 none 4 := ⟨List.mem_filter.mpr ⟨List.mem_of_getElem? (i := 299) (by decide +kernel), by decide +kernel⟩, ni_X3, by decide +kernel, by decide +kernel, by decide +kernel⟩
theorem mi_X3_init : Cond.instanceMethod yX3_init ∈ g_tb := List.mem_filter.mpr ⟨List.mem_of_getElem? (i := 298) (by decide +kernel), by decide +kernel⟩
theorem my_X3_read : g_my yX3_read cX3_read 6 none 1 := ⟨List.mem_filter.mpr ⟨List.mem_of_getElem? (i := 592) (by decide +kernel), by decide +kernel⟩, ni_X3, by decide +kernel, by decide +kernel, by decide +kernel⟩
theorem mv_X3_read : g_mv yX3_read := ⟨List.mem_filter.mpr ⟨List.mem_of_getElem? (i := 590) (by decide +kernel), by decide +kernel⟩, List.mem_filter.mpr ⟨List.mem_of_getElem? (i := 591) (by decide +kernel), by decide +kernel⟩⟩
theorem my_X4_init : g_my yX4_init cX4_init 1 none 0 := ⟨List.mem_filter.mpr ⟨List.mem_of_getElem? (i := 170) (by decide +kernel), by decide +kernel⟩, ni_X4, by decide +kernel, by decide +kernel, by decide +kernel⟩
theorem mi_X4_init : Cond.instanceMethod yX4_init ∈ g_tb := List.mem_filter.mpr ⟨List.mem_of_getElem? (i := 169) (by decide +kernel), by decide +kernel⟩
theorem my_X4_hasLeaf : g_my yX4_hasLeaf cX4_hasLeaf 2 (some .boolean) 1 := ⟨List.mem_filter.mpr ⟨List.mem_of_getElem? (i := 810) (by decide +kernel), by decide +kernel⟩, ni_X4, by decide +kernel, by decide +kernel, by decide +kernel⟩
theorem mv_X4_hasLeaf : g_mv yX4_hasLeaf := ⟨List.mem_filter.mpr ⟨List.mem_of_getElem? (i := 808) (by decide +kernel), by decide +kernel⟩, List.mem_filter.mpr ⟨List.mem_of_getElem? (i := 809) (by decide +kernel), by decide +kernel⟩⟩
theorem my_X4_hasFork : g_my yX4_hasFork cX4_hasFork 2 (some .boolean) 1 := ⟨List.mem_filter.mpr ⟨List.mem_of_getElem? (i := 818) (by decide +kernel), by decide +kernel⟩, ni_X4, by decide +kernel, by decide +kernel, by decide +kernel⟩
theorem mv_X4_hasFork : g_mv yX4_hasFork := ⟨List.mem_filter.mpr ⟨List.mem_of_getElem? (i := 816) (by decide +kernel), by decide +kernel⟩, List.mem_filter.mpr ⟨List.mem_of_getElem? (i := 817) (by decide +kernel), by decide +kernel⟩⟩
theorem my_X4_hasBranch : g_my yX4_hasBranch cX4_hasBranch 3 (some .boolean) 2 := ⟨List.mem_filter.mpr ⟨List.mem_of_getElem? (i := 836) (by decide +kernel), by decide +kernel⟩, ni_X4, by decide +kernel, by decide +kernel, by decide +kernel⟩
theorem mv_X4_hasBranch : g_mv yX4_hasBranch := ⟨List.mem_filter.mpr ⟨List.mem_of_getElem? (i := 834) (by decide +kernel), by decide +kernel⟩, List.mem_filter.mpr ⟨List.mem_of_getElem? (i := 835) (by decide +kernel), by decide +kernel⟩⟩
theorem my_X4_item : g_my yX4_item cX4_item 4 (some .int) 3 := ⟨List.mem_filter.mpr ⟨List.mem_of_getElem? (i := 704) (by decide +kernel), by decide +kernel⟩, ni_X4, by decide +kernel, by decide +kernel, by decide +kernel⟩
theorem mv_X4_item : g_mv yX4_item := ⟨List.mem_filter.mpr ⟨List.mem_of_getElem? (i := 702) (by decide +kernel), by decide +kernel⟩, List.mem_filter.mpr ⟨List.mem_of_getElem? (i := 703) (by decide +kernel), by decide +kernel⟩⟩
theorem my_X4_weight : g_my yX4_weight cX4_weight 3 (some .int) 2 := ⟨List.mem_filter.mpr ⟨List.mem_of_getElem? (i := 910) (by decide +kernel), by decide +kernel⟩, ni_X4, by decide +kernel, by decide +kernel, by decide +kernel⟩
theorem mv_X4_weight : g_mv yX4_weight := ⟨List.mem_filter.mpr ⟨List.mem_of_getElem? (i := 908) (by decide +kernel), by decide +kernel⟩, List.mem_filter.mpr ⟨List.mem_of_getElem? (i := 909) (by decide +kernel), by decide +kernel⟩⟩
theorem my_X4_target : g_my yX4_target cX4_target 3 (some .int) 2 := ⟨List.mem_filter.mpr ⟨List.mem_of_getElem? (i := 846) (by decide +kernel), by decide +kernel⟩, ni_X4, by decide +kernel, by decide +kernel, by decide +kernel⟩
theorem mv_X4_target : g_mv yX4_target := ⟨List.mem_filter.mpr ⟨List.mem_of_getElem? (i := 844) (by decide +kernel), by decide +kernel⟩, List.mem_filter.mpr ⟨List.mem_of_getElem? (i := 845) (by decide +kernel), by decide +kernel⟩⟩
theorem my_X4_allMask : g_my yX4_allMask cX4_allMask 2 (some .int) 1 := ⟨List.mem_filter.mpr ⟨List.mem_of_getElem? (i := 798) (by decide +kernel), by decide +kernel⟩, ni_X4, by decide +kernel, by decide +kernel, by decide +kernel⟩
theorem mv_X4_allMask : g_mv yX4_allMask := ⟨List.mem_filter.mpr ⟨List.mem_of_getElem? (i := 796) (by decide +kernel), by decide +kernel⟩, List.mem_filter.mpr ⟨List.mem_of_getElem? (i := 797) (by decide +kernel), by decide +kernel⟩⟩
theorem my_X4_weights : g_my yX4_weights cX4_weights 5 (some .int) 2 := ⟨List.mem_filter.mpr ⟨List.mem_of_getElem? (i := 906) (by decide +kernel), by decide +kernel⟩, ni_X4, by decide +kernel, by decide +kernel, by decide +kernel⟩
theorem mv_X4_weights : g_mv yX4_weights := ⟨List.mem_filter.mpr ⟨List.mem_of_getElem? (i := 904) (by decide +kernel), by decide +kernel⟩, List.mem_filter.mpr ⟨List.mem_of_getElem? (i := 905) (by decide +kernel), by decide +kernel⟩⟩
theorem my_X4_stepAt : g_my yX4_stepAt cX4_stepAt 4 (some .int) 2 := ⟨List.mem_filter.mpr ⟨List.mem_of_getElem? (i := 1002) (by decide +kernel), by decide +kernel⟩, ni_X4, by decide +kernel, by decide +kernel, by decide +kernel⟩
theorem mv_X4_stepAt : g_mv yX4_stepAt := ⟨List.mem_filter.mpr ⟨List.mem_of_getElem? (i := 1000) (by decide +kernel), by decide +kernel⟩, List.mem_filter.mpr ⟨List.mem_of_getElem? (i := 1001) (by decide +kernel), by decide +kernel⟩⟩
theorem my_X4_parting : g_my yX4_parting cX4_parting 5 (some .int) 2 := ⟨List.mem_filter.mpr ⟨List.mem_of_getElem? (i := 859) (by decide +kernel), by decide +kernel⟩, ni_X4, by decide +kernel, by decide +kernel, by decide +kernel⟩
theorem mv_X4_parting : g_mv yX4_parting := ⟨List.mem_filter.mpr ⟨List.mem_of_getElem? (i := 857) (by decide +kernel), by decide +kernel⟩, List.mem_filter.mpr ⟨List.mem_of_getElem? (i := 858) (by decide +kernel), by decide +kernel⟩⟩
theorem my_X5_init : g_my yX5_init cX5_init 2 none 1 := ⟨List.mem_filter.mpr ⟨List.mem_of_getElem? (i := 286) (by decide +kernel), by decide +kernel⟩, ni_X5, by decide +kernel, by decide +kernel, by decide +kernel⟩
theorem mi_X5_init : Cond.instanceMethod yX5_init ∈ g_tb := List.mem_filter.mpr ⟨List.mem_of_getElem? (i := 285) (by decide +kernel), by decide +kernel⟩
theorem my_X5_read : g_my yX5_read cX5_read 2 (some .int) 1 := ⟨List.mem_filter.mpr ⟨List.mem_of_getElem? (i := 572) (by decide +kernel), by decide +kernel⟩, ni_X5, by decide +kernel, by decide +kernel, by decide +kernel⟩
theorem mv_X5_read : g_mv yX5_read := ⟨List.mem_filter.mpr ⟨List.mem_of_getElem? (i := 570) (by decide +kernel), by decide +kernel⟩, List.mem_filter.mpr ⟨List.mem_of_getElem? (i := 571) (by decide +kernel), by decide +kernel⟩⟩
theorem my_X5_readNode : g_my yX5_readNode cX5_readNode 4 (some .int) 2 := ⟨List.mem_filter.mpr ⟨List.mem_of_getElem? (i := 580) (by decide +kernel), by decide +kernel⟩, ni_X5, by decide +kernel, by decide +kernel, by decide +kernel⟩
theorem mv_X5_readNode : g_mv yX5_readNode := ⟨List.mem_filter.mpr ⟨List.mem_of_getElem? (i := 579) (by decide +kernel), by decide +kernel⟩, List.mem_filter.mpr ⟨List.mem_of_getElem? (i := 0) (by decide +kernel), by decide +kernel⟩⟩
theorem my_X5_readLeaf : g_my yX5_readLeaf cX5_readLeaf 6 (some .int) 2 := ⟨List.mem_filter.mpr ⟨List.mem_of_getElem? (i := 588) (by decide +kernel), by decide +kernel⟩, ni_X5, by decide +kernel, by decide +kernel, by decide +kernel⟩
theorem mv_X5_readLeaf : g_mv yX5_readLeaf := ⟨List.mem_filter.mpr ⟨List.mem_of_getElem? (i := 587) (by decide +kernel), by decide +kernel⟩, List.mem_filter.mpr ⟨List.mem_of_getElem? (i := 1) (by decide +kernel), by decide +kernel⟩⟩
theorem my_X5_addStep : g_my yX5_addStep cX5_addStep 8 none 3 := ⟨List.mem_filter.mpr ⟨List.mem_of_getElem? (i := 700) (by decide +kernel), by decide +kernel⟩, ni_X5, by decide +kernel, by decide +kernel, by decide +kernel⟩
theorem mv_X5_addStep : g_mv yX5_addStep := ⟨List.mem_filter.mpr ⟨List.mem_of_getElem? (i := 699) (by decide +kernel), by decide +kernel⟩, List.mem_filter.mpr ⟨List.mem_of_getElem? (i := 2) (by decide +kernel), by decide +kernel⟩⟩
theorem my_X5_readFork : g_my yX5_readFork cX5_readFork 5 (some .int) 2 := ⟨List.mem_filter.mpr ⟨List.mem_of_getElem? (i := 708) (by decide +kernel), by decide +kernel⟩, ni_X5, by decide +kernel, by decide +kernel, by decide +kernel⟩
theorem mv_X5_readFork : g_mv yX5_readFork := ⟨List.mem_filter.mpr ⟨List.mem_of_getElem? (i := 707) (by decide +kernel), by decide +kernel⟩, List.mem_filter.mpr ⟨List.mem_of_getElem? (i := 3) (by decide +kernel), by decide +kernel⟩⟩
theorem my_X5_readBranch : g_my yX5_readBranch cX5_readBranch 4 none 2 := ⟨List.mem_filter.mpr ⟨List.mem_of_getElem? (i := 716) (by decide +kernel), by decide +kernel⟩, ni_X5, by decide +kernel, by decide +kernel, by decide +kernel⟩
theorem mv_X5_readBranch : g_mv yX5_readBranch := ⟨List.mem_filter.mpr ⟨List.mem_of_getElem? (i := 715) (by decide +kernel), by decide +kernel⟩, List.mem_filter.mpr ⟨List.mem_of_getElem? (i := 4) (by decide +kernel), by decide +kernel⟩⟩
theorem my_X6_init : g_my yX6_init cX6_init 1 none 0 := ⟨List.mem_filter.mpr ⟨List.mem_of_getElem? (i := 372) (by decide +kernel), by decide +kernel⟩, ni_X6, by decide +kernel, by decide +kernel, by decide +kernel⟩
theorem mi_X6_init : Cond.instanceMethod yX6_init ∈ g_tb := List.mem_filter.mpr ⟨List.mem_of_getElem? (i := 371) (by decide +kernel), by decide +kernel⟩
theorem my_X6_tell : g_my yX6_tell cX6_tell 3 (some .int) 2 := ⟨List.mem_filter.mpr ⟨List.mem_of_getElem? (i := 867) (by decide +kernel), by decide +kernel⟩, ni_X6, by decide +kernel, by decide +kernel, by decide +kernel⟩
theorem mv_X6_tell : g_mv yX6_tell := ⟨List.mem_filter.mpr ⟨List.mem_of_getElem? (i := 865) (by decide +kernel), by decide +kernel⟩, List.mem_filter.mpr ⟨List.mem_of_getElem? (i := 866) (by decide +kernel), by decide +kernel⟩⟩
theorem my_X6_untell : g_my yX6_untell cX6_untell 1 (some .int) 0 := ⟨List.mem_filter.mpr ⟨List.mem_of_getElem? (i := 888) (by decide +kernel), by decide +kernel⟩, ni_X6, by decide +kernel, by decide +kernel, by decide +kernel⟩
theorem mv_X6_untell : g_mv yX6_untell := ⟨List.mem_filter.mpr ⟨List.mem_of_getElem? (i := 886) (by decide +kernel), by decide +kernel⟩, List.mem_filter.mpr ⟨List.mem_of_getElem? (i := 887) (by decide +kernel), by decide +kernel⟩⟩
theorem my_X6_forget : g_my yX6_forget cX6_forget 1 none 0 := ⟨List.mem_filter.mpr ⟨List.mem_of_getElem? (i := 794) (by decide +kernel), by decide +kernel⟩, ni_X6, by decide +kernel, by decide +kernel, by decide +kernel⟩
theorem mv_X6_forget : g_mv yX6_forget := ⟨List.mem_filter.mpr ⟨List.mem_of_getElem? (i := 792) (by decide +kernel), by decide +kernel⟩, List.mem_filter.mpr ⟨List.mem_of_getElem? (i := 793) (by decide +kernel), by decide +kernel⟩⟩
theorem my_X6_keepImage : g_my yX6_keepImage cX6_keepImage 1 none 0 := ⟨List.mem_filter.mpr ⟨List.mem_of_getElem? (i := 1333) (by decide +kernel), by decide +kernel⟩, ni_X6, by decide +kernel, by decide +kernel, by decide +kernel⟩
theorem mv_X6_keepImage : g_mv yX6_keepImage := ⟨List.mem_filter.mpr ⟨List.mem_of_getElem? (i := 1331) (by decide +kernel), by decide +kernel⟩, List.mem_filter.mpr ⟨List.mem_of_getElem? (i := 1332) (by decide +kernel), by decide +kernel⟩⟩
theorem my_X6_takeImage : g_my yX6_takeImage cX6_takeImage 1 none 0 := ⟨List.mem_filter.mpr ⟨List.mem_of_getElem? (i := 1342) (by decide +kernel), by decide +kernel⟩, ni_X6, by decide +kernel, by decide +kernel, by decide +kernel⟩
theorem mv_X6_takeImage : g_mv yX6_takeImage := ⟨List.mem_filter.mpr ⟨List.mem_of_getElem? (i := 1340) (by decide +kernel), by decide +kernel⟩, List.mem_filter.mpr ⟨List.mem_of_getElem? (i := 1341) (by decide +kernel), by decide +kernel⟩⟩
theorem my_X7_init : g_my yX7_init cX7_init 2 none 1 := ⟨List.mem_filter.mpr ⟨List.mem_of_getElem? (i := 366) (by decide +kernel), by decide +kernel⟩, ni_X7, by decide +kernel, by decide +kernel, by decide +kernel⟩
theorem mi_X7_init : Cond.instanceMethod yX7_init ∈ g_tb := List.mem_filter.mpr ⟨List.mem_of_getElem? (i := 365) (by decide +kernel), by decide +kernel⟩
theorem my_X7_openMask : g_my yX7_openMask cX7_openMask 2 (some .int) 1 := ⟨List.mem_filter.mpr ⟨List.mem_of_getElem? (i := 822) (by decide +kernel), by decide +kernel⟩, ni_X7, by decide +kernel, by decide +kernel, by decide +kernel⟩
theorem mv_X7_openMask : g_mv yX7_openMask := ⟨List.mem_filter.mpr ⟨List.mem_of_getElem? (i := 820) (by decide +kernel), by decide +kernel⟩, List.mem_filter.mpr ⟨List.mem_of_getElem? (i := 821) (by decide +kernel), by decide +kernel⟩⟩
theorem my_X7_isOpen : g_my yX7_isOpen cX7_isOpen 3 (some .boolean) 2 := ⟨List.mem_filter.mpr ⟨List.mem_of_getElem? (i := 841) (by decide +kernel), by decide +kernel⟩, ni_X7, by decide +kernel, by decide +kernel, by decide +kernel⟩
theorem mv_X7_isOpen : g_mv yX7_isOpen := ⟨List.mem_filter.mpr ⟨List.mem_of_getElem? (i := 839) (by decide +kernel), by decide +kernel⟩, List.mem_filter.mpr ⟨List.mem_of_getElem? (i := 840) (by decide +kernel), by decide +kernel⟩⟩
theorem my_X7_isThere : g_my yX7_isThere cX7_isThere 3 (some .boolean) 1 := ⟨List.mem_filter.mpr ⟨List.mem_of_getElem? (i := 1038) (by decide +kernel), by decide +kernel⟩, ni_X7, by decide +kernel, by decide +kernel, by decide +kernel⟩
theorem mv_X7_isThere : g_mv yX7_isThere := ⟨List.mem_filter.mpr ⟨List.mem_of_getElem? (i := 1036) (by decide +kernel), by decide +kernel⟩, List.mem_filter.mpr ⟨List.mem_of_getElem? (i := 1037) (by decide +kernel), by decide +kernel⟩⟩
theorem my_X7_thereBits : g_my yX7_thereBits cX7_thereBits 3 (some .int) 0 := ⟨List.mem_filter.mpr ⟨List.mem_of_getElem? (i := 1180) (by decide +kernel), by decide +kernel⟩, ni_X7, by decide +kernel, by decide +kernel, by decide +kernel⟩
theorem mv_X7_thereBits : g_mv yX7_thereBits := ⟨List.mem_filter.mpr ⟨List.mem_of_getElem? (i := 1178) (by decide +kernel), by decide +kernel⟩, List.mem_filter.mpr ⟨List.mem_of_getElem? (i := 1179) (by decide +kernel), by decide +kernel⟩⟩
theorem my_X7_hasLaw : g_my yX7_hasLaw cX7_hasLaw 2 (some .boolean) 1 := ⟨List.mem_filter.mpr ⟨List.mem_of_getElem? (i := 1065) (by decide +kernel), by decide +kernel⟩, ni_X7, by decide +kernel, by decide +kernel, by decide +kernel⟩
theorem mv_X7_hasLaw : g_mv yX7_hasLaw := ⟨List.mem_filter.mpr ⟨List.mem_of_getElem? (i := 1063) (by decide +kernel), by decide +kernel⟩, List.mem_filter.mpr ⟨List.mem_of_getElem? (i := 1064) (by decide +kernel), by decide +kernel⟩⟩
theorem my_X7_isDead : g_my yX7_isDead cX7_isDead 2 (some .boolean) 1 := ⟨List.mem_filter.mpr ⟨List.mem_of_getElem? (i := 1061) (by decide +kernel), by decide +kernel⟩, ni_X7, by decide +kernel, by decide +kernel, by decide +kernel⟩
theorem mv_X7_isDead : g_mv yX7_isDead := ⟨List.mem_filter.mpr ⟨List.mem_of_getElem? (i := 1059) (by decide +kernel), by decide +kernel⟩, List.mem_filter.mpr ⟨List.mem_of_getElem? (i := 1060) (by decide +kernel), by decide +kernel⟩⟩
theorem my_X7_worthBy : g_my yX7_worthBy cX7_worthBy 3 (some .int) 2 := ⟨List.mem_filter.mpr ⟨List.mem_of_getElem? (i := 953) (by decide +kernel), by decide +kernel⟩, ni_X7, by decide +kernel, by decide +kernel, by decide +kernel⟩
theorem mv_X7_worthBy : g_mv yX7_worthBy := ⟨List.mem_filter.mpr ⟨List.mem_of_getElem? (i := 951) (by decide +kernel), by decide +kernel⟩, List.mem_filter.mpr ⟨List.mem_of_getElem? (i := 952) (by decide +kernel), by decide +kernel⟩⟩
theorem my_X7_liked : g_my yX7_liked cX7_liked 4 (some .int) 1 := ⟨List.mem_filter.mpr ⟨List.mem_of_getElem? (i := 949) (by decide +kernel), by decide +kernel⟩, ni_X7, by decide +kernel, by decide +kernel, by decide +kernel⟩
theorem mv_X7_liked : g_mv yX7_liked := ⟨List.mem_filter.mpr ⟨List.mem_of_getElem? (i := 947) (by decide +kernel), by decide +kernel⟩, List.mem_filter.mpr ⟨List.mem_of_getElem? (i := 948) (by decide +kernel), by decide +kernel⟩⟩
theorem my_X7_chosen : g_my yX7_chosen cX7_chosen 7 (some .int) 2 := ⟨List.mem_filter.mpr ⟨List.mem_of_getElem? (i := 917) (by decide +kernel), by decide +kernel⟩, ni_X7, by decide +kernel, by decide +kernel, by decide +kernel⟩
theorem mv_X7_chosen : g_mv yX7_chosen := ⟨List.mem_filter.mpr ⟨List.mem_of_getElem? (i := 915) (by decide +kernel), by decide +kernel⟩, List.mem_filter.mpr ⟨List.mem_of_getElem? (i := 916) (by decide +kernel), by decide +kernel⟩⟩
theorem my_X7_rankOf : g_my yX7_rankOf cX7_rankOf 4 (some .int) 3 := ⟨List.mem_filter.mpr ⟨List.mem_of_getElem? (i := 921) (by decide +kernel), by decide +kernel⟩, ni_X7, by decide +kernel, by decide +kernel, by decide +kernel⟩
theorem mv_X7_rankOf : g_mv yX7_rankOf := ⟨List.mem_filter.mpr ⟨List.mem_of_getElem? (i := 920) (by decide +kernel), by decide +kernel⟩, List.mem_filter.mpr ⟨List.mem_of_getElem? (i := 19) (by decide +kernel), by decide +kernel⟩⟩
theorem my_X7_parts : g_my yX7_parts cX7_parts 7 (some .int) 2 := ⟨List.mem_filter.mpr ⟨List.mem_of_getElem? (i := 896) (by decide +kernel), by decide +kernel⟩, ni_X7, by decide +kernel, by decide +kernel, by decide +kernel⟩
theorem mv_X7_parts : g_mv yX7_parts := ⟨List.mem_filter.mpr ⟨List.mem_of_getElem? (i := 894) (by decide +kernel), by decide +kernel⟩, List.mem_filter.mpr ⟨List.mem_of_getElem? (i := 895) (by decide +kernel), by decide +kernel⟩⟩
theorem my_X7_partsBehind : g_my yX7_partsBehind cX7_partsBehind 6 (some .int) 4 := ⟨List.mem_filter.mpr ⟨List.mem_of_getElem? (i := 902) (by decide +kernel), by decide +kernel⟩, ni_X7, by decide +kernel, by decide +kernel, by decide +kernel⟩
theorem mv_X7_partsBehind : g_mv yX7_partsBehind := ⟨List.mem_filter.mpr ⟨List.mem_of_getElem? (i := 901) (by decide +kernel), by decide +kernel⟩, List.mem_filter.mpr ⟨List.mem_of_getElem? (i := 18) (by decide +kernel), by decide +kernel⟩⟩
theorem my_X7_average : g_my yX7_average cX7_average 7 (some .int) 1 := ⟨List.mem_filter.mpr ⟨List.mem_of_getElem? (i := 945) (by decide +kernel), by decide +kernel⟩, ni_X7, by decide +kernel, by decide +kernel, by decide +kernel⟩
theorem mv_X7_average : g_mv yX7_average := ⟨List.mem_filter.mpr ⟨List.mem_of_getElem? (i := 943) (by decide +kernel), by decide +kernel⟩, List.mem_filter.mpr ⟨List.mem_of_getElem? (i := 944) (by decide +kernel), by decide +kernel⟩⟩
theorem my_X8_init : g_my yX8_init cX8_init 1 none 0 := ⟨List.mem_filter.mpr ⟨List.mem_of_getElem? (i := 144) (by decide +kernel), by decide +kernel⟩, ni_X8, by decide +kernel, by decide +kernel, by decide +kernel⟩
theorem mi_X8_init : Cond.instanceMethod yX8_init ∈ g_tb := List.mem_filter.mpr ⟨List.mem_of_getElem? (i := 143) (by decide +kernel), by decide +kernel⟩
theorem my_X8_bytesIn : g_my yX8_bytesIn cX8_bytesIn 3 (some .int) 1 := ⟨List.mem_filter.mpr ⟨List.mem_of_getElem? (i := 556) (by decide +kernel), by decide +kernel⟩, ni_X8, by decide +kernel, by decide +kernel, by decide +kernel⟩
theorem ms_X8_bytesIn : Cond.static yX8_bytesIn ∈ g_tb := List.mem_filter.mpr ⟨List.mem_of_getElem? (i := 555) (by decide +kernel), by decide +kernel⟩
theorem my_X8_append : g_my yX8_append cX8_append 4 none 1 := ⟨List.mem_filter.mpr ⟨List.mem_of_getElem? (i := 560) (by decide +kernel), by decide +kernel⟩, ni_X8, by decide +kernel, by decide +kernel, by decide +kernel⟩
theorem mv_X8_append : g_mv yX8_append := ⟨List.mem_filter.mpr ⟨List.mem_of_getElem? (i := 558) (by decide +kernel), by decide +kernel⟩, List.mem_filter.mpr ⟨List.mem_of_getElem? (i := 559) (by decide +kernel), by decide +kernel⟩⟩
theorem my_X8_begin : g_my yX8_begin cX8_begin 1 none 0 := ⟨List.mem_filter.mpr ⟨List.mem_of_getElem? (i := 576) (by decide +kernel), by decide +kernel⟩, ni_X8, by decide +kernel, by decide +kernel, by decide +kernel⟩
theorem mv_X8_begin : g_mv yX8_begin := ⟨List.mem_filter.mpr ⟨List.mem_of_getElem? (i := 574) (by decide +kernel), by decide +kernel⟩, List.mem_filter.mpr ⟨List.mem_of_getElem? (i := 575) (by decide +kernel), by decide +kernel⟩⟩
theorem my_X8_sign : g_my yX8_sign cX8_sign 1 (some .int) 0 := ⟨List.mem_filter.mpr ⟨List.mem_of_getElem? (i := 584) (by decide +kernel), by decide +kernel⟩, ni_X8, by decide +kernel, by decide +kernel, by decide +kernel⟩
theorem mv_X8_sign : g_mv yX8_sign := ⟨List.mem_filter.mpr ⟨List.mem_of_getElem? (i := 582) (by decide +kernel), by decide +kernel⟩, List.mem_filter.mpr ⟨List.mem_of_getElem? (i := 583) (by decide +kernel), by decide +kernel⟩⟩
theorem my_X8_takes : g_my yX8_takes cX8_takes 2 (some .boolean) 1 := ⟨List.mem_filter.mpr ⟨List.mem_of_getElem? (i := 721) (by decide +kernel), by decide +kernel⟩, ni_X8, by decide +kernel, by decide +kernel, by decide +kernel⟩
theorem mv_X8_takes : g_mv yX8_takes := ⟨List.mem_filter.mpr ⟨List.mem_of_getElem? (i := 719) (by decide +kernel), by decide +kernel⟩, List.mem_filter.mpr ⟨List.mem_of_getElem? (i := 720) (by decide +kernel), by decide +kernel⟩⟩
theorem my_X8_want : g_my yX8_want cX8_want 2 none 1 := ⟨List.mem_filter.mpr ⟨List.mem_of_getElem? (i := 712) (by decide +kernel), by decide +kernel⟩, ni_X8, by decide +kernel, by decide +kernel, by decide +kernel⟩
theorem mv_X8_want : g_mv yX8_want := ⟨List.mem_filter.mpr ⟨List.mem_of_getElem? (i := 710) (by decide +kernel), by decide +kernel⟩, List.mem_filter.mpr ⟨List.mem_of_getElem? (i := 711) (by decide +kernel), by decide +kernel⟩⟩
theorem my_X8_failAt : g_my yX8_failAt cX8_failAt 2 none 1 := ⟨List.mem_filter.mpr ⟨List.mem_of_getElem? (i := 686) (by decide +kernel), by decide +kernel⟩, ni_X8, by decide +kernel, by decide +kernel, by decide +kernel⟩
theorem mv_X8_failAt : g_mv yX8_failAt := ⟨List.mem_filter.mpr ⟨List.mem_of_getElem? (i := 684) (by decide +kernel), by decide +kernel⟩, List.mem_filter.mpr ⟨List.mem_of_getElem? (i := 685) (by decide +kernel), by decide +kernel⟩⟩
theorem my_X8_isDigit : g_my yX8_isDigit cX8_isDigit 1 (some .boolean) 0 := ⟨List.mem_filter.mpr ⟨List.mem_of_getElem? (i := 695) (by decide +kernel), by decide +kernel⟩, ni_X8, by decide +kernel, by decide +kernel, by decide +kernel⟩
theorem mv_X8_isDigit : g_mv yX8_isDigit := ⟨List.mem_filter.mpr ⟨List.mem_of_getElem? (i := 693) (by decide +kernel), by decide +kernel⟩, List.mem_filter.mpr ⟨List.mem_of_getElem? (i := 694) (by decide +kernel), by decide +kernel⟩⟩
theorem my_X8_number : g_my yX8_number cX8_number 6 (some .int) 3 := ⟨List.mem_filter.mpr ⟨List.mem_of_getElem? (i := 690) (by decide +kernel), by decide +kernel⟩, ni_X8, by decide +kernel, by decide +kernel, by decide +kernel⟩
theorem mv_X8_number : g_mv yX8_number := ⟨List.mem_filter.mpr ⟨List.mem_of_getElem? (i := 688) (by decide +kernel), by decide +kernel⟩, List.mem_filter.mpr ⟨List.mem_of_getElem? (i := 689) (by decide +kernel), by decide +kernel⟩⟩
theorem my_X8_finish : g_my yX8_finish cX8_finish 1 (some .int) 0 := ⟨List.mem_filter.mpr ⟨List.mem_of_getElem? (i := 726) (by decide +kernel), by decide +kernel⟩, ni_X8, by decide +kernel, by decide +kernel, by decide +kernel⟩
theorem mv_X8_finish : g_mv yX8_finish := ⟨List.mem_filter.mpr ⟨List.mem_of_getElem? (i := 724) (by decide +kernel), by decide +kernel⟩, List.mem_filter.mpr ⟨List.mem_of_getElem? (i := 725) (by decide +kernel), by decide +kernel⟩⟩
theorem my_X9_init : g_my yX9_init cX9_init 1 none 0 := ⟨List.mem_filter.mpr ⟨List.mem_of_getElem? (i := 269) (by decide +kernel), by decide +kernel⟩, ni_X9, by decide +kernel, by decide +kernel, by decide +kernel⟩
theorem mi_X9_init : Cond.instanceMethod yX9_init ∈ g_tb := List.mem_filter.mpr ⟨List.mem_of_getElem? (i := 268) (by decide +kernel), by decide +kernel⟩
theorem my_X9_put : g_my yX9_put cX9_put 2 none 1 := ⟨List.mem_filter.mpr ⟨List.mem_of_getElem? (i := 760) (by decide +kernel), by decide +kernel⟩, ni_X9, by decide +kernel, by decide +kernel, by decide +kernel⟩
theorem mv_X9_put : g_mv yX9_put := ⟨List.mem_filter.mpr ⟨List.mem_of_getElem? (i := 758) (by decide +kernel), by decide +kernel⟩, List.mem_filter.mpr ⟨List.mem_of_getElem? (i := 759) (by decide +kernel), by decide +kernel⟩⟩
theorem my_X9_reckon : g_my yX9_reckon cX9_reckon 6 (some .int) 1 := ⟨List.mem_filter.mpr ⟨List.mem_of_getElem? (i := 926) (by decide +kernel), by decide +kernel⟩, ni_X9, by decide +kernel, by decide +kernel, by decide +kernel⟩
theorem mv_X9_reckon : g_mv yX9_reckon := ⟨List.mem_filter.mpr ⟨List.mem_of_getElem? (i := 924) (by decide +kernel), by decide +kernel⟩, List.mem_filter.mpr ⟨List.mem_of_getElem? (i := 925) (by decide +kernel), by decide +kernel⟩⟩
theorem my_X9_letterAt : g_my yX9_letterAt cX9_letterAt 2 (some .int) 2 := ⟨List.mem_filter.mpr ⟨List.mem_of_getElem? (i := 929) (by decide +kernel), by decide +kernel⟩, ni_X9, by decide +kernel, by decide +kernel, by decide +kernel⟩
theorem ms_X9_letterAt : Cond.static yX9_letterAt ∈ g_tb := List.mem_filter.mpr ⟨List.mem_of_getElem? (i := 928) (by decide +kernel), by decide +kernel⟩
theorem my_X9_joined : g_my yX9_joined cX9_joined 7 (some .int) 3 := ⟨List.mem_filter.mpr ⟨List.mem_of_getElem? (i := 932) (by decide +kernel), by decide +kernel⟩, ni_X9, by decide +kernel, by decide +kernel, by decide +kernel⟩
theorem ms_X9_joined : Cond.static yX9_joined ∈ g_tb := List.mem_filter.mpr ⟨List.mem_of_getElem? (i := 931) (by decide +kernel), by decide +kernel⟩
theorem my_X10_init : g_my yX10_init cX10_init 2 none 1 := ⟨List.mem_filter.mpr ⟨List.mem_of_getElem? (i := 356) (by decide +kernel), by decide +kernel⟩, ni_X10, by decide +kernel, by decide +kernel, by decide +kernel⟩
theorem mi_X10_init : Cond.instanceMethod yX10_init ∈ g_tb := List.mem_filter.mpr ⟨List.mem_of_getElem? (i := 355) (by decide +kernel), by decide +kernel⟩
theorem my_X10_read : g_my yX10_read cX10_read 3 (some .int) 1 := ⟨List.mem_filter.mpr ⟨List.mem_of_getElem? (i := 730) (by decide +kernel), by decide +kernel⟩, ni_X10, by decide +kernel, by decide +kernel, by decide +kernel⟩
theorem mv_X10_read : g_mv yX10_read := ⟨List.mem_filter.mpr ⟨List.mem_of_getElem? (i := 728) (by decide +kernel), by decide +kernel⟩, List.mem_filter.mpr ⟨List.mem_of_getElem? (i := 729) (by decide +kernel), by decide +kernel⟩⟩
theorem my_X10_readClause : g_my yX10_readClause cX10_readClause 4 none 1 := ⟨List.mem_filter.mpr ⟨List.mem_of_getElem? (i := 735) (by decide +kernel), by decide +kernel⟩, ni_X10, by decide +kernel, by decide +kernel, by decide +kernel⟩
theorem mv_X10_readClause : g_mv yX10_readClause := ⟨List.mem_filter.mpr ⟨List.mem_of_getElem? (i := 734) (by decide +kernel), by decide +kernel⟩, List.mem_filter.mpr ⟨List.mem_of_getElem? (i := 5) (by decide +kernel), by decide +kernel⟩⟩
theorem my_X10_compares : g_my yX10_compares cX10_compares 1 (some .boolean) 1 := ⟨List.mem_filter.mpr ⟨List.mem_of_getElem? (i := 764) (by decide +kernel), by decide +kernel⟩, ni_X10, by decide +kernel, by decide +kernel, by decide +kernel⟩
theorem ms_X10_compares : Cond.static yX10_compares ∈ g_tb := List.mem_filter.mpr ⟨List.mem_of_getElem? (i := 763) (by decide +kernel), by decide +kernel⟩
theorem my_X10_readCondition : g_my yX10_readCondition cX10_readCondition 5 none 3 := ⟨List.mem_filter.mpr ⟨List.mem_of_getElem? (i := 768) (by decide +kernel), by decide +kernel⟩, ni_X10, by decide +kernel, by decide +kernel, by decide +kernel⟩
theorem mv_X10_readCondition : g_mv yX10_readCondition := ⟨List.mem_filter.mpr ⟨List.mem_of_getElem? (i := 767) (by decide +kernel), by decide +kernel⟩, List.mem_filter.mpr ⟨List.mem_of_getElem? (i := 10) (by decide +kernel), by decide +kernel⟩⟩
theorem my_X10_readTruth : g_my yX10_readTruth cX10_readTruth 5 none 3 := ⟨List.mem_filter.mpr ⟨List.mem_of_getElem? (i := 772) (by decide +kernel), by decide +kernel⟩, ni_X10, by decide +kernel, by decide +kernel, by decide +kernel⟩
theorem mv_X10_readTruth : g_mv yX10_readTruth := ⟨List.mem_filter.mpr ⟨List.mem_of_getElem? (i := 771) (by decide +kernel), by decide +kernel⟩, List.mem_filter.mpr ⟨List.mem_of_getElem? (i := 11) (by decide +kernel), by decide +kernel⟩⟩
theorem my_X10_readUnit : g_my yX10_readUnit cX10_readUnit 5 none 3 := ⟨List.mem_filter.mpr ⟨List.mem_of_getElem? (i := 776) (by decide +kernel), by decide +kernel⟩, ni_X10, by decide +kernel, by decide +kernel, by decide +kernel⟩
theorem mv_X10_readUnit : g_mv yX10_readUnit := ⟨List.mem_filter.mpr ⟨List.mem_of_getElem? (i := 775) (by decide +kernel), by decide +kernel⟩, List.mem_filter.mpr ⟨List.mem_of_getElem? (i := 12) (by decide +kernel), by decide +kernel⟩⟩
theorem my_X10_readComparison : g_my yX10_readComparison cX10_readComparison 5 none 3 := ⟨List.mem_filter.mpr ⟨List.mem_of_getElem? (i := 780) (by decide +kernel), by decide +kernel⟩, ni_X10, by decide +kernel, by decide +kernel, by decide +kernel⟩
theorem mv_X10_readComparison : g_mv yX10_readComparison := ⟨List.mem_filter.mpr ⟨List.mem_of_getElem? (i := 779) (by decide +kernel), by decide +kernel⟩, List.mem_filter.mpr ⟨List.mem_of_getElem? (i := 13) (by decide +kernel), by decide +kernel⟩⟩
theorem my_X10_goesIn : g_my yX10_goesIn cX10_goesIn 2 (some .boolean) 1 := ⟨List.mem_filter.mpr ⟨List.mem_of_getElem? (i := 755) (by decide +kernel), by decide +kernel⟩, ni_X10, by decide +kernel, by decide +kernel, by decide +kernel⟩
theorem mv_X10_goesIn : g_mv yX10_goesIn := ⟨List.mem_filter.mpr ⟨List.mem_of_getElem? (i := 754) (by decide +kernel), by decide +kernel⟩, List.mem_filter.mpr ⟨List.mem_of_getElem? (i := 9) (by decide +kernel), by decide +kernel⟩⟩
theorem my_X10_readSum : g_my yX10_readSum cX10_readSum 5 none 2 := ⟨List.mem_filter.mpr ⟨List.mem_of_getElem? (i := 741) (by decide +kernel), by decide +kernel⟩, ni_X10, by decide +kernel, by decide +kernel, by decide +kernel⟩
theorem mv_X10_readSum : g_mv yX10_readSum := ⟨List.mem_filter.mpr ⟨List.mem_of_getElem? (i := 740) (by decide +kernel), by decide +kernel⟩, List.mem_filter.mpr ⟨List.mem_of_getElem? (i := 6) (by decide +kernel), by decide +kernel⟩⟩
theorem my_X10_readTerm : g_my yX10_readTerm cX10_readTerm 5 none 2 := ⟨List.mem_filter.mpr ⟨List.mem_of_getElem? (i := 745) (by decide +kernel), by decide +kernel⟩, ni_X10, by decide +kernel, by decide +kernel, by decide +kernel⟩
theorem mv_X10_readTerm : g_mv yX10_readTerm := ⟨List.mem_filter.mpr ⟨List.mem_of_getElem? (i := 744) (by decide +kernel), by decide +kernel⟩, List.mem_filter.mpr ⟨List.mem_of_getElem? (i := 7) (by decide +kernel), by decide +kernel⟩⟩
theorem my_X10_readAtom : g_my yX10_readAtom cX10_readAtom 5 none 2 := ⟨List.mem_filter.mpr ⟨List.mem_of_getElem? (i := 749) (by decide +kernel), by decide +kernel⟩, ni_X10, by decide +kernel, by decide +kernel, by decide +kernel⟩
theorem mv_X10_readAtom : g_mv yX10_readAtom := ⟨List.mem_filter.mpr ⟨List.mem_of_getElem? (i := 748) (by decide +kernel), by decide +kernel⟩, List.mem_filter.mpr ⟨List.mem_of_getElem? (i := 8) (by decide +kernel), by decide +kernel⟩⟩
theorem my_X11_init : g_my yX11_init cX11_init 2 none 1 := ⟨List.mem_filter.mpr ⟨List.mem_of_getElem? (i := 424) (by decide +kernel), by decide +kernel⟩, ni_X11, by decide +kernel, by decide +kernel, by decide +kernel⟩
theorem mi_X11_init : Cond.instanceMethod yX11_init ∈ g_tb := List.mem_filter.mpr ⟨List.mem_of_getElem? (i := 423) (by decide +kernel), by decide +kernel⟩
theorem my_X11_reckon : g_my yX11_reckon cX11_reckon 3 none 0 := ⟨List.mem_filter.mpr ⟨List.mem_of_getElem? (i := 969) (by decide +kernel), by decide +kernel⟩, ni_X11, by decide +kernel, by decide +kernel, by decide +kernel⟩
theorem mv_X11_reckon : g_mv yX11_reckon := ⟨List.mem_filter.mpr ⟨List.mem_of_getElem? (i := 967) (by decide +kernel), by decide +kernel⟩, List.mem_filter.mpr ⟨List.mem_of_getElem? (i := 968) (by decide +kernel), by decide +kernel⟩⟩
theorem my_X11_behind : g_my yX11_behind cX11_behind 4 (some .int) 2 := ⟨List.mem_filter.mpr ⟨List.mem_of_getElem? (i := 979) (by decide +kernel), by decide +kernel⟩, ni_X11, by decide +kernel, by decide +kernel, by decide +kernel⟩
theorem mv_X11_behind : g_mv yX11_behind := ⟨List.mem_filter.mpr ⟨List.mem_of_getElem? (i := 977) (by decide +kernel), by decide +kernel⟩, List.mem_filter.mpr ⟨List.mem_of_getElem? (i := 978) (by decide +kernel), by decide +kernel⟩⟩
theorem my_X11_bestBranch : g_my yX11_bestBranch cX11_bestBranch 4 (some .int) 1 := ⟨List.mem_filter.mpr ⟨List.mem_of_getElem? (i := 988) (by decide +kernel), by decide +kernel⟩, ni_X11, by decide +kernel, by decide +kernel, by decide +kernel⟩
theorem mv_X11_bestBranch : g_mv yX11_bestBranch := ⟨List.mem_filter.mpr ⟨List.mem_of_getElem? (i := 986) (by decide +kernel), by decide +kernel⟩, List.mem_filter.mpr ⟨List.mem_of_getElem? (i := 987) (by decide +kernel), by decide +kernel⟩⟩
theorem my_X11_byChance : g_my yX11_byChance cX11_byChance 5 (some .int) 1 := ⟨List.mem_filter.mpr ⟨List.mem_of_getElem? (i := 974) (by decide +kernel), by decide +kernel⟩, ni_X11, by decide +kernel, by decide +kernel, by decide +kernel⟩
theorem mv_X11_byChance : g_mv yX11_byChance := ⟨List.mem_filter.mpr ⟨List.mem_of_getElem? (i := 973) (by decide +kernel), by decide +kernel⟩, List.mem_filter.mpr ⟨List.mem_of_getElem? (i := 20) (by decide +kernel), by decide +kernel⟩⟩
theorem my_X11_regretAt : g_my yX11_regretAt cX11_regretAt 4 (some .int) 2 := ⟨List.mem_filter.mpr ⟨List.mem_of_getElem? (i := 1006) (by decide +kernel), by decide +kernel⟩, ni_X11, by decide +kernel, by decide +kernel, by decide +kernel⟩
theorem mv_X11_regretAt : g_mv yX11_regretAt := ⟨List.mem_filter.mpr ⟨List.mem_of_getElem? (i := 1004) (by decide +kernel), by decide +kernel⟩, List.mem_filter.mpr ⟨List.mem_of_getElem? (i := 1005) (by decide +kernel), by decide +kernel⟩⟩
theorem my_X11_regrets : g_my yX11_regrets cX11_regrets 4 (some .int) 1 := ⟨List.mem_filter.mpr ⟨List.mem_of_getElem? (i := 1020) (by decide +kernel), by decide +kernel⟩, ni_X11, by decide +kernel, by decide +kernel, by decide +kernel⟩
theorem mv_X11_regrets : g_mv yX11_regrets := ⟨List.mem_filter.mpr ⟨List.mem_of_getElem? (i := 1018) (by decide +kernel), by decide +kernel⟩, List.mem_filter.mpr ⟨List.mem_of_getElem? (i := 1019) (by decide +kernel), by decide +kernel⟩⟩
theorem my_X11_sorest : g_my yX11_sorest cX11_sorest 4 (some .int) 1 := ⟨List.mem_filter.mpr ⟨List.mem_of_getElem? (i := 1015) (by decide +kernel), by decide +kernel⟩, ni_X11, by decide +kernel, by decide +kernel, by decide +kernel⟩
theorem mv_X11_sorest : g_mv yX11_sorest := ⟨List.mem_filter.mpr ⟨List.mem_of_getElem? (i := 1013) (by decide +kernel), by decide +kernel⟩, List.mem_filter.mpr ⟨List.mem_of_getElem? (i := 1014) (by decide +kernel), by decide +kernel⟩⟩
theorem my_X11_lead : g_my yX11_lead cX11_lead 6 (some .int) 2 := ⟨List.mem_filter.mpr ⟨List.mem_of_getElem? (i := 1028) (by decide +kernel), by decide +kernel⟩, ni_X11, by decide +kernel, by decide +kernel, by decide +kernel⟩
theorem mv_X11_lead : g_mv yX11_lead := ⟨List.mem_filter.mpr ⟨List.mem_of_getElem? (i := 1026) (by decide +kernel), by decide +kernel⟩, List.mem_filter.mpr ⟨List.mem_of_getElem? (i := 1027) (by decide +kernel), by decide +kernel⟩⟩
theorem my_X12_init : g_my yX12_init cX12_init 2 none 0 := ⟨List.mem_filter.mpr ⟨List.mem_of_getElem? (i := 136) (by decide +kernel), by decide +kernel⟩, ni_X12, by decide +kernel, by decide +kernel, by decide +kernel⟩
theorem mi_X12_init : Cond.instanceMethod yX12_init ∈ g_tb := List.mem_filter.mpr ⟨List.mem_of_getElem? (i := 135) (by decide +kernel), by decide +kernel⟩
theorem my_X12_feed : g_my yX12_feed cX12_feed 7 (some .int) 5 := ⟨List.mem_filter.mpr ⟨List.mem_of_getElem? (i := 553) (by decide +kernel), by decide +kernel⟩, ni_X12, by decide +kernel, by decide +kernel, by decide +kernel⟩
theorem mv_X12_feed : g_mv yX12_feed := ⟨List.mem_filter.mpr ⟨List.mem_of_getElem? (i := 551) (by decide +kernel), by decide +kernel⟩, List.mem_filter.mpr ⟨List.mem_of_getElem? (i := 552) (by decide +kernel), by decide +kernel⟩⟩
theorem my_X12_end : g_my yX12_end cX12_end 2 (some .boolean) 1 := ⟨List.mem_filter.mpr ⟨List.mem_of_getElem? (i := 564) (by decide +kernel), by decide +kernel⟩, ni_X12, by decide +kernel, by decide +kernel, by decide +kernel⟩
theorem mv_X12_end : g_mv yX12_end := ⟨List.mem_filter.mpr ⟨List.mem_of_getElem? (i := 562) (by decide +kernel), by decide +kernel⟩, List.mem_filter.mpr ⟨List.mem_of_getElem? (i := 563) (by decide +kernel), by decide +kernel⟩⟩
theorem my_X12_fault : g_my yX12_fault cX12_fault 2 (some .int) 1 := ⟨List.mem_filter.mpr ⟨List.mem_of_getElem? (i := 568) (by decide +kernel), by decide +kernel⟩, ni_X12, by decide +kernel, by decide +kernel, by decide +kernel⟩
theorem mv_X12_fault : g_mv yX12_fault := ⟨List.mem_filter.mpr ⟨List.mem_of_getElem? (i := 566) (by decide +kernel), by decide +kernel⟩, List.mem_filter.mpr ⟨List.mem_of_getElem? (i := 567) (by decide +kernel), by decide +kernel⟩⟩
theorem my_X12_text : g_my yX12_text cX12_text 2 (some .int) 1 := ⟨List.mem_filter.mpr ⟨List.mem_of_getElem? (i := 786) (by decide +kernel), by decide +kernel⟩, ni_X12, by decide +kernel, by decide +kernel, by decide +kernel⟩
theorem mv_X12_text : g_mv yX12_text := ⟨List.mem_filter.mpr ⟨List.mem_of_getElem? (i := 784) (by decide +kernel), by decide +kernel⟩, List.mem_filter.mpr ⟨List.mem_of_getElem? (i := 785) (by decide +kernel), by decide +kernel⟩⟩
theorem my_X12_call : g_my yX12_call cX12_call 2 (some .int) 1 := ⟨List.mem_filter.mpr ⟨List.mem_of_getElem? (i := 802) (by decide +kernel), by decide +kernel⟩, ni_X12, by decide +kernel, by decide +kernel, by decide +kernel⟩
theorem mv_X12_call : g_mv yX12_call := ⟨List.mem_filter.mpr ⟨List.mem_of_getElem? (i := 800) (by decide +kernel), by decide +kernel⟩, List.mem_filter.mpr ⟨List.mem_of_getElem? (i := 801) (by decide +kernel), by decide +kernel⟩⟩
theorem my_X12_self : g_my yX12_self cX12_self 3 (some .int) 2 := ⟨List.mem_filter.mpr ⟨List.mem_of_getElem? (i := 1354) (by decide +kernel), by decide +kernel⟩, ni_X12, by decide +kernel, by decide +kernel, by decide +kernel⟩
theorem mv_X12_self : g_mv yX12_self := ⟨List.mem_filter.mpr ⟨List.mem_of_getElem? (i := 1352) (by decide +kernel), by decide +kernel⟩, List.mem_filter.mpr ⟨List.mem_of_getElem? (i := 1353) (by decide +kernel), by decide +kernel⟩⟩
theorem my_X12_way : g_my yX12_way cX12_way 3 (some .int) 2 := ⟨List.mem_filter.mpr ⟨List.mem_of_getElem? (i := 806) (by decide +kernel), by decide +kernel⟩, ni_X12, by decide +kernel, by decide +kernel, by decide +kernel⟩
theorem mv_X12_way : g_mv yX12_way := ⟨List.mem_filter.mpr ⟨List.mem_of_getElem? (i := 804) (by decide +kernel), by decide +kernel⟩, List.mem_filter.mpr ⟨List.mem_of_getElem? (i := 805) (by decide +kernel), by decide +kernel⟩⟩
theorem my_X12_fork : g_my yX12_fork cX12_fork 4 (some .int) 2 := ⟨List.mem_filter.mpr ⟨List.mem_of_getElem? (i := 814) (by decide +kernel), by decide +kernel⟩, ni_X12, by decide +kernel, by decide +kernel, by decide +kernel⟩
theorem mv_X12_fork : g_mv yX12_fork := ⟨List.mem_filter.mpr ⟨List.mem_of_getElem? (i := 812) (by decide +kernel), by decide +kernel⟩, List.mem_filter.mpr ⟨List.mem_of_getElem? (i := 813) (by decide +kernel), by decide +kernel⟩⟩
theorem my_X12_branch : g_my yX12_branch cX12_branch 5 (some .int) 3 := ⟨List.mem_filter.mpr ⟨List.mem_of_getElem? (i := 832) (by decide +kernel), by decide +kernel⟩, ni_X12, by decide +kernel, by decide +kernel, by decide +kernel⟩
theorem mv_X12_branch : g_mv yX12_branch := ⟨List.mem_filter.mpr ⟨List.mem_of_getElem? (i := 830) (by decide +kernel), by decide +kernel⟩, List.mem_filter.mpr ⟨List.mem_of_getElem? (i := 831) (by decide +kernel), by decide +kernel⟩⟩
theorem my_X12_part : g_my yX12_part cX12_part 5 (some .int) 3 := ⟨List.mem_filter.mpr ⟨List.mem_of_getElem? (i := 851) (by decide +kernel), by decide +kernel⟩, ni_X12, by decide +kernel, by decide +kernel, by decide +kernel⟩
theorem mv_X12_part : g_mv yX12_part := ⟨List.mem_filter.mpr ⟨List.mem_of_getElem? (i := 849) (by decide +kernel), by decide +kernel⟩, List.mem_filter.mpr ⟨List.mem_of_getElem? (i := 850) (by decide +kernel), by decide +kernel⟩⟩
theorem my_X12_open : g_my yX12_open cX12_open 5 (some .int) 3 := ⟨List.mem_filter.mpr ⟨List.mem_of_getElem? (i := 863) (by decide +kernel), by decide +kernel⟩, ni_X12, by decide +kernel, by decide +kernel, by decide +kernel⟩
theorem mv_X12_open : g_mv yX12_open := ⟨List.mem_filter.mpr ⟨List.mem_of_getElem? (i := 861) (by decide +kernel), by decide +kernel⟩, List.mem_filter.mpr ⟨List.mem_of_getElem? (i := 862) (by decide +kernel), by decide +kernel⟩⟩
theorem my_X12_set : g_my yX12_set cX12_set 3 (some .int) 2 := ⟨List.mem_filter.mpr ⟨List.mem_of_getElem? (i := 872) (by decide +kernel), by decide +kernel⟩, ni_X12, by decide +kernel, by decide +kernel, by decide +kernel⟩
theorem mv_X12_set : g_mv yX12_set := ⟨List.mem_filter.mpr ⟨List.mem_of_getElem? (i := 870) (by decide +kernel), by decide +kernel⟩, List.mem_filter.mpr ⟨List.mem_of_getElem? (i := 871) (by decide +kernel), by decide +kernel⟩⟩
theorem my_X12_undo : g_my yX12_undo cX12_undo 1 (some .int) 0 := ⟨List.mem_filter.mpr ⟨List.mem_of_getElem? (i := 884) (by decide +kernel), by decide +kernel⟩, ni_X12, by decide +kernel, by decide +kernel, by decide +kernel⟩
theorem mv_X12_undo : g_mv yX12_undo := ⟨List.mem_filter.mpr ⟨List.mem_of_getElem? (i := 882) (by decide +kernel), by decide +kernel⟩, List.mem_filter.mpr ⟨List.mem_of_getElem? (i := 883) (by decide +kernel), by decide +kernel⟩⟩
theorem my_X12_odds : g_my yX12_odds cX12_odds 2 (some .int) 1 := ⟨List.mem_filter.mpr ⟨List.mem_of_getElem? (i := 892) (by decide +kernel), by decide +kernel⟩, ni_X12, by decide +kernel, by decide +kernel, by decide +kernel⟩
theorem mv_X12_odds : g_mv yX12_odds := ⟨List.mem_filter.mpr ⟨List.mem_of_getElem? (i := 890) (by decide +kernel), by decide +kernel⟩, List.mem_filter.mpr ⟨List.mem_of_getElem? (i := 891) (by decide +kernel), by decide +kernel⟩⟩
theorem my_X12_mean : g_my yX12_mean cX12_mean 2 (some .int) 1 := ⟨List.mem_filter.mpr ⟨List.mem_of_getElem? (i := 940) (by decide +kernel), by decide +kernel⟩, ni_X12, by decide +kernel, by decide +kernel, by decide +kernel⟩
theorem mv_X12_mean : g_mv yX12_mean := ⟨List.mem_filter.mpr ⟨List.mem_of_getElem? (i := 938) (by decide +kernel), by decide +kernel⟩, List.mem_filter.mpr ⟨List.mem_of_getElem? (i := 939) (by decide +kernel), by decide +kernel⟩⟩
theorem my_X12_worth : g_my yX12_worth cX12_worth 2 (some .int) 1 := ⟨List.mem_filter.mpr ⟨List.mem_of_getElem? (i := 960) (by decide +kernel), by decide +kernel⟩, ni_X12, by decide +kernel, by decide +kernel, by decide +kernel⟩
theorem mv_X12_worth : g_mv yX12_worth := ⟨List.mem_filter.mpr ⟨List.mem_of_getElem? (i := 958) (by decide +kernel), by decide +kernel⟩, List.mem_filter.mpr ⟨List.mem_of_getElem? (i := 959) (by decide +kernel), by decide +kernel⟩⟩
theorem my_X12_value : g_my yX12_value cX12_value 4 (some .int) 2 := ⟨List.mem_filter.mpr ⟨List.mem_of_getElem? (i := 965) (by decide +kernel), by decide +kernel⟩, ni_X12, by decide +kernel, by decide +kernel, by decide +kernel⟩
theorem mv_X12_value : g_mv yX12_value := ⟨List.mem_filter.mpr ⟨List.mem_of_getElem? (i := 963) (by decide +kernel), by decide +kernel⟩, List.mem_filter.mpr ⟨List.mem_of_getElem? (i := 964) (by decide +kernel), by decide +kernel⟩⟩
theorem my_X12_advice : g_my yX12_advice cX12_advice 2 (some .int) 1 := ⟨List.mem_filter.mpr ⟨List.mem_of_getElem? (i := 993) (by decide +kernel), by decide +kernel⟩, ni_X12, by decide +kernel, by decide +kernel, by decide +kernel⟩
theorem mv_X12_advice : g_mv yX12_advice := ⟨List.mem_filter.mpr ⟨List.mem_of_getElem? (i := 991) (by decide +kernel), by decide +kernel⟩, List.mem_filter.mpr ⟨List.mem_of_getElem? (i := 992) (by decide +kernel), by decide +kernel⟩⟩
theorem my_X12_regret : g_my yX12_regret cX12_regret 4 (some .int) 2 := ⟨List.mem_filter.mpr ⟨List.mem_of_getElem? (i := 998) (by decide +kernel), by decide +kernel⟩, ni_X12, by decide +kernel, by decide +kernel, by decide +kernel⟩
theorem mv_X12_regret : g_mv yX12_regret := ⟨List.mem_filter.mpr ⟨List.mem_of_getElem? (i := 996) (by decide +kernel), by decide +kernel⟩, List.mem_filter.mpr ⟨List.mem_of_getElem? (i := 997) (by decide +kernel), by decide +kernel⟩⟩
theorem my_X12_sore : g_my yX12_sore cX12_sore 3 (some .int) 2 := ⟨List.mem_filter.mpr ⟨List.mem_of_getElem? (i := 1011) (by decide +kernel), by decide +kernel⟩, ni_X12, by decide +kernel, by decide +kernel, by decide +kernel⟩
theorem mv_X12_sore : g_mv yX12_sore := ⟨List.mem_filter.mpr ⟨List.mem_of_getElem? (i := 1009) (by decide +kernel), by decide +kernel⟩, List.mem_filter.mpr ⟨List.mem_of_getElem? (i := 1010) (by decide +kernel), by decide +kernel⟩⟩
theorem my_X12_apology : g_my yX12_apology cX12_apology 3 (some .int) 2 := ⟨List.mem_filter.mpr ⟨List.mem_of_getElem? (i := 1024) (by decide +kernel), by decide +kernel⟩, ni_X12, by decide +kernel, by decide +kernel, by decide +kernel⟩
theorem mv_X12_apology : g_mv yX12_apology := ⟨List.mem_filter.mpr ⟨List.mem_of_getElem? (i := 1022) (by decide +kernel), by decide +kernel⟩, List.mem_filter.mpr ⟨List.mem_of_getElem? (i := 1023) (by decide +kernel), by decide +kernel⟩⟩
theorem my_X12_share : g_my yX12_share cX12_share 3 (some .int) 2 := ⟨List.mem_filter.mpr ⟨List.mem_of_getElem? (i := 1034) (by decide +kernel), by decide +kernel⟩, ni_X12, by decide +kernel, by decide +kernel, by decide +kernel⟩
theorem mv_X12_share : g_mv yX12_share := ⟨List.mem_filter.mpr ⟨List.mem_of_getElem? (i := 1032) (by decide +kernel), by decide +kernel⟩, List.mem_filter.mpr ⟨List.mem_of_getElem? (i := 1033) (by decide +kernel), by decide +kernel⟩⟩
theorem my_X12_demand : g_my yX12_demand cX12_demand 2 (some .int) 1 := ⟨List.mem_filter.mpr ⟨List.mem_of_getElem? (i := 1070) (by decide +kernel), by decide +kernel⟩, ni_X12, by decide +kernel, by decide +kernel, by decide +kernel⟩
theorem mv_X12_demand : g_mv yX12_demand := ⟨List.mem_filter.mpr ⟨List.mem_of_getElem? (i := 1068) (by decide +kernel), by decide +kernel⟩, List.mem_filter.mpr ⟨List.mem_of_getElem? (i := 1069) (by decide +kernel), by decide +kernel⟩⟩
theorem my_X12_terms : g_my yX12_terms cX12_terms 2 (some .int) 1 := ⟨List.mem_filter.mpr ⟨List.mem_of_getElem? (i := 1078) (by decide +kernel), by decide +kernel⟩, ni_X12, by decide +kernel, by decide +kernel, by decide +kernel⟩
theorem mv_X12_terms : g_mv yX12_terms := ⟨List.mem_filter.mpr ⟨List.mem_of_getElem? (i := 1076) (by decide +kernel), by decide +kernel⟩, List.mem_filter.mpr ⟨List.mem_of_getElem? (i := 1077) (by decide +kernel), by decide +kernel⟩⟩
theorem my_X12_away : g_my yX12_away cX12_away 2 (some .int) 1 := ⟨List.mem_filter.mpr ⟨List.mem_of_getElem? (i := 1087) (by decide +kernel), by decide +kernel⟩, ni_X12, by decide +kernel, by decide +kernel, by decide +kernel⟩
theorem mv_X12_away : g_mv yX12_away := ⟨List.mem_filter.mpr ⟨List.mem_of_getElem? (i := 1085) (by decide +kernel), by decide +kernel⟩, List.mem_filter.mpr ⟨List.mem_of_getElem? (i := 1086) (by decide +kernel), by decide +kernel⟩⟩
theorem my_X12_elected : g_my yX12_elected cX12_elected 2 (some .int) 1 := ⟨List.mem_filter.mpr ⟨List.mem_of_getElem? (i := 1101) (by decide +kernel), by decide +kernel⟩, ni_X12, by decide +kernel, by decide +kernel, by decide +kernel⟩
theorem mv_X12_elected : g_mv yX12_elected := ⟨List.mem_filter.mpr ⟨List.mem_of_getElem? (i := 1099) (by decide +kernel), by decide +kernel⟩, List.mem_filter.mpr ⟨List.mem_of_getElem? (i := 1100) (by decide +kernel), by decide +kernel⟩⟩
theorem my_X12_duel : g_my yX12_duel cX12_duel 3 (some .int) 2 := ⟨List.mem_filter.mpr ⟨List.mem_of_getElem? (i := 1122) (by decide +kernel), by decide +kernel⟩, ni_X12, by decide +kernel, by decide +kernel, by decide +kernel⟩
theorem mv_X12_duel : g_mv yX12_duel := ⟨List.mem_filter.mpr ⟨List.mem_of_getElem? (i := 1120) (by decide +kernel), by decide +kernel⟩, List.mem_filter.mpr ⟨List.mem_of_getElem? (i := 1121) (by decide +kernel), by decide +kernel⟩⟩
theorem my_X12_beats : g_my yX12_beats cX12_beats 1 (some .int) 0 := ⟨List.mem_filter.mpr ⟨List.mem_of_getElem? (i := 1134) (by decide +kernel), by decide +kernel⟩, ni_X12, by decide +kernel, by decide +kernel, by decide +kernel⟩
theorem mv_X12_beats : g_mv yX12_beats := ⟨List.mem_filter.mpr ⟨List.mem_of_getElem? (i := 1132) (by decide +kernel), by decide +kernel⟩, List.mem_filter.mpr ⟨List.mem_of_getElem? (i := 1133) (by decide +kernel), by decide +kernel⟩⟩
theorem my_X12_ring : g_my yX12_ring cX12_ring 1 (some .int) 0 := ⟨List.mem_filter.mpr ⟨List.mem_of_getElem? (i := 1143) (by decide +kernel), by decide +kernel⟩, ni_X12, by decide +kernel, by decide +kernel, by decide +kernel⟩
theorem mv_X12_ring : g_mv yX12_ring := ⟨List.mem_filter.mpr ⟨List.mem_of_getElem? (i := 1141) (by decide +kernel), by decide +kernel⟩, List.mem_filter.mpr ⟨List.mem_of_getElem? (i := 1142) (by decide +kernel), by decide +kernel⟩⟩
theorem my_X12_all : g_my yX12_all cX12_all 2 (some .int) 1 := ⟨List.mem_filter.mpr ⟨List.mem_of_getElem? (i := 1155) (by decide +kernel), by decide +kernel⟩, ni_X12, by decide +kernel, by decide +kernel, by decide +kernel⟩
theorem mv_X12_all : g_mv yX12_all := ⟨List.mem_filter.mpr ⟨List.mem_of_getElem? (i := 1153) (by decide +kernel), by decide +kernel⟩, List.mem_filter.mpr ⟨List.mem_of_getElem? (i := 1154) (by decide +kernel), by decide +kernel⟩⟩
theorem my_X12_telling : g_my yX12_telling cX12_telling 2 (some .int) 1 := ⟨List.mem_filter.mpr ⟨List.mem_of_getElem? (i := 1167) (by decide +kernel), by decide +kernel⟩, ni_X12, by decide +kernel, by decide +kernel, by decide +kernel⟩
theorem mv_X12_telling : g_mv yX12_telling := ⟨List.mem_filter.mpr ⟨List.mem_of_getElem? (i := 1165) (by decide +kernel), by decide +kernel⟩, List.mem_filter.mpr ⟨List.mem_of_getElem? (i := 1166) (by decide +kernel), by decide +kernel⟩⟩
theorem my_X12_twins : g_my yX12_twins cX12_twins 2 (some .int) 1 := ⟨List.mem_filter.mpr ⟨List.mem_of_getElem? (i := 1190) (by decide +kernel), by decide +kernel⟩, ni_X12, by decide +kernel, by decide +kernel, by decide +kernel⟩
theorem mv_X12_twins : g_mv yX12_twins := ⟨List.mem_filter.mpr ⟨List.mem_of_getElem? (i := 1188) (by decide +kernel), by decide +kernel⟩, List.mem_filter.mpr ⟨List.mem_of_getElem? (i := 1189) (by decide +kernel), by decide +kernel⟩⟩
theorem my_X12_sentence : g_my yX12_sentence cX12_sentence 1 (some .int) 0 := ⟨List.mem_filter.mpr ⟨List.mem_of_getElem? (i := 1195) (by decide +kernel), by decide +kernel⟩, ni_X12, by decide +kernel, by decide +kernel, by decide +kernel⟩
theorem mv_X12_sentence : g_mv yX12_sentence := ⟨List.mem_filter.mpr ⟨List.mem_of_getElem? (i := 1193) (by decide +kernel), by decide +kernel⟩, List.mem_filter.mpr ⟨List.mem_of_getElem? (i := 1194) (by decide +kernel), by decide +kernel⟩⟩
theorem my_X12_leads : g_my yX12_leads cX12_leads 3 (some .int) 2 := ⟨List.mem_filter.mpr ⟨List.mem_of_getElem? (i := 1207) (by decide +kernel), by decide +kernel⟩, ni_X12, by decide +kernel, by decide +kernel, by decide +kernel⟩
theorem mv_X12_leads : g_mv yX12_leads := ⟨List.mem_filter.mpr ⟨List.mem_of_getElem? (i := 1205) (by decide +kernel), by decide +kernel⟩, List.mem_filter.mpr ⟨List.mem_of_getElem? (i := 1206) (by decide +kernel), by decide +kernel⟩⟩
theorem my_X12_clue : g_my yX12_clue cX12_clue 4 (some .int) 3 := ⟨List.mem_filter.mpr ⟨List.mem_of_getElem? (i := 1215) (by decide +kernel), by decide +kernel⟩, ni_X12, by decide +kernel, by decide +kernel, by decide +kernel⟩
theorem mv_X12_clue : g_mv yX12_clue := ⟨List.mem_filter.mpr ⟨List.mem_of_getElem? (i := 1213) (by decide +kernel), by decide +kernel⟩, List.mem_filter.mpr ⟨List.mem_of_getElem? (i := 1214) (by decide +kernel), by decide +kernel⟩⟩
theorem my_X12_can : g_my yX12_can cX12_can 2 (some .int) 1 := ⟨List.mem_filter.mpr ⟨List.mem_of_getElem? (i := 1223) (by decide +kernel), by decide +kernel⟩, ni_X12, by decide +kernel, by decide +kernel, by decide +kernel⟩
theorem mv_X12_can : g_mv yX12_can := ⟨List.mem_filter.mpr ⟨List.mem_of_getElem? (i := 1221) (by decide +kernel), by decide +kernel⟩, List.mem_filter.mpr ⟨List.mem_of_getElem? (i := 1222) (by decide +kernel), by decide +kernel⟩⟩
theorem my_X12_cross : g_my yX12_cross cX12_cross 3 (some .int) 2 := ⟨List.mem_filter.mpr ⟨List.mem_of_getElem? (i := 1251) (by decide +kernel), by decide +kernel⟩, ni_X12, by decide +kernel, by decide +kernel, by decide +kernel⟩
theorem mv_X12_cross : g_mv yX12_cross := ⟨List.mem_filter.mpr ⟨List.mem_of_getElem? (i := 1249) (by decide +kernel), by decide +kernel⟩, List.mem_filter.mpr ⟨List.mem_of_getElem? (i := 1250) (by decide +kernel), by decide +kernel⟩⟩
theorem my_X12_meetings : g_my yX12_meetings cX12_meetings 4 (some .int) 3 := ⟨List.mem_filter.mpr ⟨List.mem_of_getElem? (i := 1266) (by decide +kernel), by decide +kernel⟩, ni_X12, by decide +kernel, by decide +kernel, by decide +kernel⟩
theorem mv_X12_meetings : g_mv yX12_meetings := ⟨List.mem_filter.mpr ⟨List.mem_of_getElem? (i := 1264) (by decide +kernel), by decide +kernel⟩, List.mem_filter.mpr ⟨List.mem_of_getElem? (i := 1265) (by decide +kernel), by decide +kernel⟩⟩
theorem my_X12_birthday : g_my yX12_birthday cX12_birthday 3 (some .int) 1 := ⟨List.mem_filter.mpr ⟨List.mem_of_getElem? (i := 1280) (by decide +kernel), by decide +kernel⟩, ni_X12, by decide +kernel, by decide +kernel, by decide +kernel⟩
theorem mv_X12_birthday : g_mv yX12_birthday := ⟨List.mem_filter.mpr ⟨List.mem_of_getElem? (i := 1278) (by decide +kernel), by decide +kernel⟩, List.mem_filter.mpr ⟨List.mem_of_getElem? (i := 1279) (by decide +kernel), by decide +kernel⟩⟩
theorem my_X12_born : g_my yX12_born cX12_born 2 (some .int) 1 := ⟨List.mem_filter.mpr ⟨List.mem_of_getElem? (i := 1313) (by decide +kernel), by decide +kernel⟩, ni_X12, by decide +kernel, by decide +kernel, by decide +kernel⟩
theorem mv_X12_born : g_mv yX12_born := ⟨List.mem_filter.mpr ⟨List.mem_of_getElem? (i := 1311) (by decide +kernel), by decide +kernel⟩, List.mem_filter.mpr ⟨List.mem_of_getElem? (i := 1312) (by decide +kernel), by decide +kernel⟩⟩
theorem my_X12_take : g_my yX12_take cX12_take 1 (some .int) 0 := ⟨List.mem_filter.mpr ⟨List.mem_of_getElem? (i := 1317) (by decide +kernel), by decide +kernel⟩, ni_X12, by decide +kernel, by decide +kernel, by decide +kernel⟩
theorem mv_X12_take : g_mv yX12_take := ⟨List.mem_filter.mpr ⟨List.mem_of_getElem? (i := 1315) (by decide +kernel), by decide +kernel⟩, List.mem_filter.mpr ⟨List.mem_of_getElem? (i := 1316) (by decide +kernel), by decide +kernel⟩⟩
theorem my_X12_town : g_my yX12_town cX12_town 5 (some .int) 3 := ⟨List.mem_filter.mpr ⟨List.mem_of_getElem? (i := 1321) (by decide +kernel), by decide +kernel⟩, ni_X12, by decide +kernel, by decide +kernel, by decide +kernel⟩
theorem mv_X12_town : g_mv yX12_town := ⟨List.mem_filter.mpr ⟨List.mem_of_getElem? (i := 1319) (by decide +kernel), by decide +kernel⟩, List.mem_filter.mpr ⟨List.mem_of_getElem? (i := 1320) (by decide +kernel), by decide +kernel⟩⟩
theorem my_X12_image : g_my yX12_image cX12_image 1 (some .int) 0 := ⟨List.mem_filter.mpr ⟨List.mem_of_getElem? (i := 1329) (by decide +kernel), by decide +kernel⟩, ni_X12, by decide +kernel, by decide +kernel, by decide +kernel⟩
theorem mv_X12_image : g_mv yX12_image := ⟨List.mem_filter.mpr ⟨List.mem_of_getElem? (i := 1327) (by decide +kernel), by decide +kernel⟩, List.mem_filter.mpr ⟨List.mem_of_getElem? (i := 1328) (by decide +kernel), by decide +kernel⟩⟩
theorem my_X12_back : g_my yX12_back cX12_back 1 (some .int) 0 := ⟨List.mem_filter.mpr ⟨List.mem_of_getElem? (i := 1338) (by decide +kernel), by decide +kernel⟩, ni_X12, by decide +kernel, by decide +kernel, by decide +kernel⟩
theorem mv_X12_back : g_mv yX12_back := ⟨List.mem_filter.mpr ⟨List.mem_of_getElem? (i := 1336) (by decide +kernel), by decide +kernel⟩, List.mem_filter.mpr ⟨List.mem_of_getElem? (i := 1337) (by decide +kernel), by decide +kernel⟩⟩
theorem my_X12_count : g_my yX12_count cX12_count 2 (some .int) 1 := ⟨List.mem_filter.mpr ⟨List.mem_of_getElem? (i := 1346) (by decide +kernel), by decide +kernel⟩, ni_X12, by decide +kernel, by decide +kernel, by decide +kernel⟩
theorem mv_X12_count : g_mv yX12_count := ⟨List.mem_filter.mpr ⟨List.mem_of_getElem? (i := 1344) (by decide +kernel), by decide +kernel⟩, List.mem_filter.mpr ⟨List.mem_of_getElem? (i := 1345) (by decide +kernel), by decide +kernel⟩⟩
theorem my_X12_bringToTable : g_my yX12_bringToTable cX12_bringToTable 3 none 1 := ⟨List.mem_filter.mpr ⟨List.mem_of_getElem? (i := 790) (by decide +kernel), by decide +kernel⟩, ni_X12, by decide +kernel, by decide +kernel, by decide +kernel⟩
theorem mv_X12_bringToTable : g_mv yX12_bringToTable := ⟨List.mem_filter.mpr ⟨List.mem_of_getElem? (i := 789) (by decide +kernel), by decide +kernel⟩, List.mem_filter.mpr ⟨List.mem_of_getElem? (i := 14) (by decide +kernel), by decide +kernel⟩⟩
theorem my_X12_differentSelves : g_my yX12_differentSelves cX12_differentSelves 3 (some .boolean) 2 := ⟨List.mem_filter.mpr ⟨List.mem_of_getElem? (i := 855) (by decide +kernel), by decide +kernel⟩, ni_X12, by decide +kernel, by decide +kernel, by decide +kernel⟩
theorem mv_X12_differentSelves : g_mv yX12_differentSelves := ⟨List.mem_filter.mpr ⟨List.mem_of_getElem? (i := 854) (by decide +kernel), by decide +kernel⟩, List.mem_filter.mpr ⟨List.mem_of_getElem? (i := 15) (by decide +kernel), by decide +kernel⟩⟩
theorem my_X12_isSetting : g_my yX12_isSetting cX12_isSetting 3 (some .boolean) 2 := ⟨List.mem_filter.mpr ⟨List.mem_of_getElem? (i := 876) (by decide +kernel), by decide +kernel⟩, ni_X12, by decide +kernel, by decide +kernel, by decide +kernel⟩
theorem mv_X12_isSetting : g_mv yX12_isSetting := ⟨List.mem_filter.mpr ⟨List.mem_of_getElem? (i := 875) (by decide +kernel), by decide +kernel⟩, List.mem_filter.mpr ⟨List.mem_of_getElem? (i := 16) (by decide +kernel), by decide +kernel⟩⟩
theorem my_X12_isTaste : g_my yX12_isTaste cX12_isTaste 2 (some .boolean) 1 := ⟨List.mem_filter.mpr ⟨List.mem_of_getElem? (i := 880) (by decide +kernel), by decide +kernel⟩, ni_X12, by decide +kernel, by decide +kernel, by decide +kernel⟩
theorem mv_X12_isTaste : g_mv yX12_isTaste := ⟨List.mem_filter.mpr ⟨List.mem_of_getElem? (i := 879) (by decide +kernel), by decide +kernel⟩, List.mem_filter.mpr ⟨List.mem_of_getElem? (i := 17) (by decide +kernel), by decide +kernel⟩⟩
theorem my_X12_isPot : g_my yX12_isPot cX12_isPot 2 (some .boolean) 1 := ⟨List.mem_filter.mpr ⟨List.mem_of_getElem? (i := 1043) (by decide +kernel), by decide +kernel⟩, ni_X12, by decide +kernel, by decide +kernel, by decide +kernel⟩
theorem mv_X12_isPot : g_mv yX12_isPot := ⟨List.mem_filter.mpr ⟨List.mem_of_getElem? (i := 1042) (by decide +kernel), by decide +kernel⟩, List.mem_filter.mpr ⟨List.mem_of_getElem? (i := 21) (by decide +kernel), by decide +kernel⟩⟩
theorem my_X12_isCode : g_my yX12_isCode cX12_isCode 2 (some .boolean) 1 := ⟨List.mem_filter.mpr ⟨List.mem_of_getElem? (i := 1255) (by decide +kernel), by decide +kernel⟩, ni_X12, by decide +kernel, by decide +kernel, by decide +kernel⟩
theorem mv_X12_isCode : g_mv yX12_isCode := ⟨List.mem_filter.mpr ⟨List.mem_of_getElem? (i := 1254) (by decide +kernel), by decide +kernel⟩, List.mem_filter.mpr ⟨List.mem_of_getElem? (i := 34) (by decide +kernel), by decide +kernel⟩⟩
theorem my_X13_init : g_my yX13_init cX13_init 1 none 0 := ⟨List.mem_filter.mpr ⟨List.mem_of_getElem? (i := 1424) (by decide +kernel), by decide +kernel⟩, ni_X13, by decide +kernel, by decide +kernel, by decide +kernel⟩
theorem mi_X13_init : Cond.instanceMethod yX13_init ∈ g_tb := List.mem_filter.mpr ⟨List.mem_of_getElem? (i := 1423) (by decide +kernel), by decide +kernel⟩
theorem my_X13_thrown : g_my yX13_thrown cX13_thrown 1 (some .int) 0 := ⟨List.mem_filter.mpr ⟨List.mem_of_getElem? (i := 1571) (by decide +kernel), by decide +kernel⟩, ni_X13, by decide +kernel, by decide +kernel, by decide +kernel⟩
theorem mv_X13_thrown : g_mv yX13_thrown := ⟨List.mem_filter.mpr ⟨List.mem_of_getElem? (i := 1569) (by decide +kernel), by decide +kernel⟩, List.mem_filter.mpr ⟨List.mem_of_getElem? (i := 1570) (by decide +kernel), by decide +kernel⟩⟩
theorem my_X13_isIn : g_my yX13_isIn cX13_isIn 6 (some .boolean) 3 := ⟨List.mem_filter.mpr ⟨List.mem_of_getElem? (i := 1593) (by decide +kernel), by decide +kernel⟩, ni_X13, by decide +kernel, by decide +kernel, by decide +kernel⟩
theorem ms_X13_isIn : Cond.static yX13_isIn ∈ g_tb := List.mem_filter.mpr ⟨List.mem_of_getElem? (i := 1592) (by decide +kernel), by decide +kernel⟩
theorem my_X13_has : g_my yX13_has cX13_has 2 (some .boolean) 2 := ⟨List.mem_filter.mpr ⟨List.mem_of_getElem? (i := 1647) (by decide +kernel), by decide +kernel⟩, ni_X13, by decide +kernel, by decide +kernel, by decide +kernel⟩
theorem ms_X13_has : Cond.static yX13_has ∈ g_tb := List.mem_filter.mpr ⟨List.mem_of_getElem? (i := 1646) (by decide +kernel), by decide +kernel⟩
theorem my_X13_isAmong : g_my yX13_isAmong cX13_isAmong 3 (some .boolean) 2 := ⟨List.mem_filter.mpr ⟨List.mem_of_getElem? (i := 1688) (by decide +kernel), by decide +kernel⟩, ni_X13, by decide +kernel, by decide +kernel, by decide +kernel⟩
theorem ms_X13_isAmong : Cond.static yX13_isAmong ∈ g_tb := List.mem_filter.mpr ⟨List.mem_of_getElem? (i := 1687) (by decide +kernel), by decide +kernel⟩
theorem my_X13_bytesIn : g_my yX13_bytesIn cX13_bytesIn 3 (some .int) 1 := ⟨List.mem_filter.mpr ⟨List.mem_of_getElem? (i := 1578) (by decide +kernel), by decide +kernel⟩, ni_X13, by decide +kernel, by decide +kernel, by decide +kernel⟩
theorem ms_X13_bytesIn : Cond.static yX13_bytesIn ∈ g_tb := List.mem_filter.mpr ⟨List.mem_of_getElem? (i := 1577) (by decide +kernel), by decide +kernel⟩
theorem my_X13_put : g_my yX13_put cX13_put 3 none 1 := ⟨List.mem_filter.mpr ⟨List.mem_of_getElem? (i := 1582) (by decide +kernel), by decide +kernel⟩, ni_X13, by decide +kernel, by decide +kernel, by decide +kernel⟩
theorem mv_X13_put : g_mv yX13_put := ⟨List.mem_filter.mpr ⟨List.mem_of_getElem? (i := 1581) (by decide +kernel), by decide +kernel⟩, List.mem_filter.mpr ⟨List.mem_of_getElem? (i := 40) (by decide +kernel), by decide +kernel⟩⟩
theorem my_X13_feed : g_my yX13_feed cX13_feed 6 (some .int) 5 := ⟨List.mem_filter.mpr ⟨List.mem_of_getElem? (i := 1575) (by decide +kernel), by decide +kernel⟩, ni_X13, by decide +kernel, by decide +kernel, by decide +kernel⟩
theorem mv_X13_feed : g_mv yX13_feed := ⟨List.mem_filter.mpr ⟨List.mem_of_getElem? (i := 1573) (by decide +kernel), by decide +kernel⟩, List.mem_filter.mpr ⟨List.mem_of_getElem? (i := 1574) (by decide +kernel), by decide +kernel⟩⟩
theorem my_X13_end : g_my yX13_end cX13_end 2 (some .boolean) 1 := ⟨List.mem_filter.mpr ⟨List.mem_of_getElem? (i := 1586) (by decide +kernel), by decide +kernel⟩, ni_X13, by decide +kernel, by decide +kernel, by decide +kernel⟩
theorem mv_X13_end : g_mv yX13_end := ⟨List.mem_filter.mpr ⟨List.mem_of_getElem? (i := 1584) (by decide +kernel), by decide +kernel⟩, List.mem_filter.mpr ⟨List.mem_of_getElem? (i := 1585) (by decide +kernel), by decide +kernel⟩⟩
theorem my_X13_look : g_my yX13_look cX13_look 1 (some .int) 0 := ⟨List.mem_filter.mpr ⟨List.mem_of_getElem? (i := 1609) (by decide +kernel), by decide +kernel⟩, ni_X13, by decide +kernel, by decide +kernel, by decide +kernel⟩
theorem mv_X13_look : g_mv yX13_look := ⟨List.mem_filter.mpr ⟨List.mem_of_getElem? (i := 1608) (by decide +kernel), by decide +kernel⟩, List.mem_filter.mpr ⟨List.mem_of_getElem? (i := 44) (by decide +kernel), by decide +kernel⟩⟩
theorem my_X13_fails : g_my yX13_fails cX13_fails 1 (some .boolean) 0 := ⟨List.mem_filter.mpr ⟨List.mem_of_getElem? (i := 1651) (by decide +kernel), by decide +kernel⟩, ni_X13, by decide +kernel, by decide +kernel, by decide +kernel⟩
theorem mv_X13_fails : g_mv yX13_fails := ⟨List.mem_filter.mpr ⟨List.mem_of_getElem? (i := 1650) (by decide +kernel), by decide +kernel⟩, List.mem_filter.mpr ⟨List.mem_of_getElem? (i := 47) (by decide +kernel), by decide +kernel⟩⟩
theorem my_X13_goesIn : g_my yX13_goesIn cX13_goesIn 1 (some .boolean) 0 := ⟨List.mem_filter.mpr ⟨List.mem_of_getElem? (i := 1720) (by decide +kernel), by decide +kernel⟩, ni_X13, by decide +kernel, by decide +kernel, by decide +kernel⟩
theorem mv_X13_goesIn : g_mv yX13_goesIn := ⟨List.mem_filter.mpr ⟨List.mem_of_getElem? (i := 1719) (by decide +kernel), by decide +kernel⟩, List.mem_filter.mpr ⟨List.mem_of_getElem? (i := 62) (by decide +kernel), by decide +kernel⟩⟩
theorem my_X13_takes : g_my yX13_takes cX13_takes 2 (some .boolean) 1 := ⟨List.mem_filter.mpr ⟨List.mem_of_getElem? (i := 1692) (by decide +kernel), by decide +kernel⟩, ni_X13, by decide +kernel, by decide +kernel, by decide +kernel⟩
theorem mv_X13_takes : g_mv yX13_takes := ⟨List.mem_filter.mpr ⟨List.mem_of_getElem? (i := 1691) (by decide +kernel), by decide +kernel⟩, List.mem_filter.mpr ⟨List.mem_of_getElem? (i := 55) (by decide +kernel), by decide +kernel⟩⟩
theorem my_X13_isDigit : g_my yX13_isDigit cX13_isDigit 1 (some .boolean) 0 := ⟨List.mem_filter.mpr ⟨List.mem_of_getElem? (i := 1655) (by decide +kernel), by decide +kernel⟩, ni_X13, by decide +kernel, by decide +kernel, by decide +kernel⟩
theorem mv_X13_isDigit : g_mv yX13_isDigit := ⟨List.mem_filter.mpr ⟨List.mem_of_getElem? (i := 1654) (by decide +kernel), by decide +kernel⟩, List.mem_filter.mpr ⟨List.mem_of_getElem? (i := 48) (by decide +kernel), by decide +kernel⟩⟩
theorem my_X13_within : g_my yX13_within cX13_within 2 (some .int) 1 := ⟨List.mem_filter.mpr ⟨List.mem_of_getElem? (i := 1723) (by decide +kernel), by decide +kernel⟩, ni_X13, by decide +kernel, by decide +kernel, by decide +kernel⟩
theorem ms_X13_within : Cond.static yX13_within ∈ g_tb := List.mem_filter.mpr ⟨List.mem_of_getElem? (i := 1722) (by decide +kernel), by decide +kernel⟩
theorem my_X13_atom : g_my yX13_atom cX13_atom 4 (some .int) 0 := ⟨List.mem_filter.mpr ⟨List.mem_of_getElem? (i := 1716) (by decide +kernel), by decide +kernel⟩, ni_X13, by decide +kernel, by decide +kernel, by decide +kernel⟩
theorem mv_X13_atom : g_mv yX13_atom := ⟨List.mem_filter.mpr ⟨List.mem_of_getElem? (i := 1715) (by decide +kernel), by decide +kernel⟩, List.mem_filter.mpr ⟨List.mem_of_getElem? (i := 61) (by decide +kernel), by decide +kernel⟩⟩
theorem my_X13_term : g_my yX13_term cX13_term 5 (some .int) 0 := ⟨List.mem_filter.mpr ⟨List.mem_of_getElem? (i := 1712) (by decide +kernel), by decide +kernel⟩, ni_X13, by decide +kernel, by decide +kernel, by decide +kernel⟩
theorem mv_X13_term : g_mv yX13_term := ⟨List.mem_filter.mpr ⟨List.mem_of_getElem? (i := 1711) (by decide +kernel), by decide +kernel⟩, List.mem_filter.mpr ⟨List.mem_of_getElem? (i := 60) (by decide +kernel), by decide +kernel⟩⟩
theorem my_X13_sum : g_my yX13_sum cX13_sum 5 (some .int) 0 := ⟨List.mem_filter.mpr ⟨List.mem_of_getElem? (i := 1708) (by decide +kernel), by decide +kernel⟩, ni_X13, by decide +kernel, by decide +kernel, by decide +kernel⟩
theorem mv_X13_sum : g_mv yX13_sum := ⟨List.mem_filter.mpr ⟨List.mem_of_getElem? (i := 1707) (by decide +kernel), by decide +kernel⟩, List.mem_filter.mpr ⟨List.mem_of_getElem? (i := 59) (by decide +kernel), by decide +kernel⟩⟩
theorem my_X13_isSign : g_my yX13_isSign cX13_isSign 1 (some .boolean) 1 := ⟨List.mem_filter.mpr ⟨List.mem_of_getElem? (i := 1734) (by decide +kernel), by decide +kernel⟩, ni_X13, by decide +kernel, by decide +kernel, by decide +kernel⟩
theorem ms_X13_isSign : Cond.static yX13_isSign ∈ g_tb := List.mem_filter.mpr ⟨List.mem_of_getElem? (i := 1733) (by decide +kernel), by decide +kernel⟩
theorem my_X13_compares : g_my yX13_compares cX13_compares 6 (some .boolean) 2 := ⟨List.mem_filter.mpr ⟨List.mem_of_getElem? (i := 1704) (by decide +kernel), by decide +kernel⟩, ni_X13, by decide +kernel, by decide +kernel, by decide +kernel⟩
theorem mv_X13_compares : g_mv yX13_compares := ⟨List.mem_filter.mpr ⟨List.mem_of_getElem? (i := 1703) (by decide +kernel), by decide +kernel⟩, List.mem_filter.mpr ⟨List.mem_of_getElem? (i := 58) (by decide +kernel), by decide +kernel⟩⟩
theorem my_X13_unit : g_my yX13_unit cX13_unit 3 (some .boolean) 0 := ⟨List.mem_filter.mpr ⟨List.mem_of_getElem? (i := 1738) (by decide +kernel), by decide +kernel⟩, ni_X13, by decide +kernel, by decide +kernel, by decide +kernel⟩
theorem mv_X13_unit : g_mv yX13_unit := ⟨List.mem_filter.mpr ⟨List.mem_of_getElem? (i := 1737) (by decide +kernel), by decide +kernel⟩, List.mem_filter.mpr ⟨List.mem_of_getElem? (i := 63) (by decide +kernel), by decide +kernel⟩⟩
theorem my_X13_part : g_my yX13_part cX13_part 5 (some .boolean) 2 := ⟨List.mem_filter.mpr ⟨List.mem_of_getElem? (i := 1700) (by decide +kernel), by decide +kernel⟩, ni_X13, by decide +kernel, by decide +kernel, by decide +kernel⟩
theorem mv_X13_part : g_mv yX13_part := ⟨List.mem_filter.mpr ⟨List.mem_of_getElem? (i := 1699) (by decide +kernel), by decide +kernel⟩, List.mem_filter.mpr ⟨List.mem_of_getElem? (i := 57) (by decide +kernel), by decide +kernel⟩⟩
theorem my_X13_condition : g_my yX13_condition cX13_condition 5 (some .boolean) 2 := ⟨List.mem_filter.mpr ⟨List.mem_of_getElem? (i := 1696) (by decide +kernel), by decide +kernel⟩, ni_X13, by decide +kernel, by decide +kernel, by decide +kernel⟩
theorem mv_X13_condition : g_mv yX13_condition := ⟨List.mem_filter.mpr ⟨List.mem_of_getElem? (i := 1695) (by decide +kernel), by decide +kernel⟩, List.mem_filter.mpr ⟨List.mem_of_getElem? (i := 56) (by decide +kernel), by decide +kernel⟩⟩
theorem my_X13_clause : g_my yX13_clause cX13_clause 5 none 0 := ⟨List.mem_filter.mpr ⟨List.mem_of_getElem? (i := 1685) (by decide +kernel), by decide +kernel⟩, ni_X13, by decide +kernel, by decide +kernel, by decide +kernel⟩
theorem mv_X13_clause : g_mv yX13_clause := ⟨List.mem_filter.mpr ⟨List.mem_of_getElem? (i := 1684) (by decide +kernel), by decide +kernel⟩, List.mem_filter.mpr ⟨List.mem_of_getElem? (i := 54) (by decide +kernel), by decide +kernel⟩⟩
theorem my_X13_opens : g_my yX13_opens cX13_opens 4 none 3 := ⟨List.mem_filter.mpr ⟨List.mem_of_getElem? (i := 1601) (by decide +kernel), by decide +kernel⟩, ni_X13, by decide +kernel, by decide +kernel, by decide +kernel⟩
theorem mv_X13_opens : g_mv yX13_opens := ⟨List.mem_filter.mpr ⟨List.mem_of_getElem? (i := 1600) (by decide +kernel), by decide +kernel⟩, List.mem_filter.mpr ⟨List.mem_of_getElem? (i := 42) (by decide +kernel), by decide +kernel⟩⟩
theorem my_X13_goThrough : g_my yX13_goThrough cX13_goThrough 4 none 3 := ⟨List.mem_filter.mpr ⟨List.mem_of_getElem? (i := 1681) (by decide +kernel), by decide +kernel⟩, ni_X13, by decide +kernel, by decide +kernel, by decide +kernel⟩
theorem mv_X13_goThrough : g_mv yX13_goThrough := ⟨List.mem_filter.mpr ⟨List.mem_of_getElem? (i := 1680) (by decide +kernel), by decide +kernel⟩, List.mem_filter.mpr ⟨List.mem_of_getElem? (i := 53) (by decide +kernel), by decide +kernel⟩⟩
theorem my_X13_here : g_my yX13_here cX13_here 1 (some .int) 0 := ⟨List.mem_filter.mpr ⟨List.mem_of_getElem? (i := 1659) (by decide +kernel), by decide +kernel⟩, ni_X13, by decide +kernel, by decide +kernel, by decide +kernel⟩
theorem mv_X13_here : g_mv yX13_here := ⟨List.mem_filter.mpr ⟨List.mem_of_getElem? (i := 1658) (by decide +kernel), by decide +kernel⟩, List.mem_filter.mpr ⟨List.mem_of_getElem? (i := 49) (by decide +kernel), by decide +kernel⟩⟩
theorem my_X13_placeOf : g_my yX13_placeOf cX13_placeOf 3 (some .int) 2 := ⟨List.mem_filter.mpr ⟨List.mem_of_getElem? (i := 1623) (by decide +kernel), by decide +kernel⟩, ni_X13, by decide +kernel, by decide +kernel, by decide +kernel⟩
theorem ms_X13_placeOf : Cond.static yX13_placeOf ∈ g_tb := List.mem_filter.mpr ⟨List.mem_of_getElem? (i := 1622) (by decide +kernel), by decide +kernel⟩
theorem my_X13_readItems : g_my yX13_readItems cX13_readItems 11 none 5 := ⟨List.mem_filter.mpr ⟨List.mem_of_getElem? (i := 1620) (by decide +kernel), by decide +kernel⟩, ni_X13, by decide +kernel, by decide +kernel, by decide +kernel⟩
theorem mv_X13_readItems : g_mv yX13_readItems := ⟨List.mem_filter.mpr ⟨List.mem_of_getElem? (i := 1619) (by decide +kernel), by decide +kernel⟩, List.mem_filter.mpr ⟨List.mem_of_getElem? (i := 46) (by decide +kernel), by decide +kernel⟩⟩
theorem my_X13_leafAt : g_my yX13_leafAt cX13_leafAt 3 (some .int) 2 := ⟨List.mem_filter.mpr ⟨List.mem_of_getElem? (i := 1613) (by decide +kernel), by decide +kernel⟩, ni_X13, by decide +kernel, by decide +kernel, by decide +kernel⟩
theorem mv_X13_leafAt : g_mv yX13_leafAt := ⟨List.mem_filter.mpr ⟨List.mem_of_getElem? (i := 1612) (by decide +kernel), by decide +kernel⟩, List.mem_filter.mpr ⟨List.mem_of_getElem? (i := 45) (by decide +kernel), by decide +kernel⟩⟩
theorem my_X13_forkAt : g_my yX13_forkAt cX13_forkAt 3 (some .int) 2 := ⟨List.mem_filter.mpr ⟨List.mem_of_getElem? (i := 1663) (by decide +kernel), by decide +kernel⟩, ni_X13, by decide +kernel, by decide +kernel, by decide +kernel⟩
theorem mv_X13_forkAt : g_mv yX13_forkAt := ⟨List.mem_filter.mpr ⟨List.mem_of_getElem? (i := 1662) (by decide +kernel), by decide +kernel⟩, List.mem_filter.mpr ⟨List.mem_of_getElem? (i := 50) (by decide +kernel), by decide +kernel⟩⟩
theorem my_X13_branchAt : g_my yX13_branchAt cX13_branchAt 4 (some .int) 3 := ⟨List.mem_filter.mpr ⟨List.mem_of_getElem? (i := 1674) (by decide +kernel), by decide +kernel⟩, ni_X13, by decide +kernel, by decide +kernel, by decide +kernel⟩
theorem mv_X13_branchAt : g_mv yX13_branchAt := ⟨List.mem_filter.mpr ⟨List.mem_of_getElem? (i := 1673) (by decide +kernel), by decide +kernel⟩, List.mem_filter.mpr ⟨List.mem_of_getElem? (i := 52) (by decide +kernel), by decide +kernel⟩⟩
theorem my_X13_readNode : g_my yX13_readNode cX13_readNode 7 (some .int) 3 := ⟨List.mem_filter.mpr ⟨List.mem_of_getElem? (i := 1605) (by decide +kernel), by decide +kernel⟩, ni_X13, by decide +kernel, by decide +kernel, by decide +kernel⟩
theorem mv_X13_readNode : g_mv yX13_readNode := ⟨List.mem_filter.mpr ⟨List.mem_of_getElem? (i := 1604) (by decide +kernel), by decide +kernel⟩, List.mem_filter.mpr ⟨List.mem_of_getElem? (i := 43) (by decide +kernel), by decide +kernel⟩⟩
theorem my_X13_readBranches : g_my yX13_readBranches cX13_readBranches 6 none 2 := ⟨List.mem_filter.mpr ⟨List.mem_of_getElem? (i := 1670) (by decide +kernel), by decide +kernel⟩, ni_X13, by decide +kernel, by decide +kernel, by decide +kernel⟩
theorem mv_X13_readBranches : g_mv yX13_readBranches := ⟨List.mem_filter.mpr ⟨List.mem_of_getElem? (i := 1669) (by decide +kernel), by decide +kernel⟩, List.mem_filter.mpr ⟨List.mem_of_getElem? (i := 51) (by decide +kernel), by decide +kernel⟩⟩
theorem my_X13_readLife : g_my yX13_readLife cX13_readLife 1 none 0 := ⟨List.mem_filter.mpr ⟨List.mem_of_getElem? (i := 1597) (by decide +kernel), by decide +kernel⟩, ni_X13, by decide +kernel, by decide +kernel, by decide +kernel⟩
theorem mv_X13_readLife : g_mv yX13_readLife := ⟨List.mem_filter.mpr ⟨List.mem_of_getElem? (i := 1596) (by decide +kernel), by decide +kernel⟩, List.mem_filter.mpr ⟨List.mem_of_getElem? (i := 41) (by decide +kernel), by decide +kernel⟩⟩
theorem my_X13_fault : g_my yX13_fault cX13_fault 2 (some .int) 1 := ⟨List.mem_filter.mpr ⟨List.mem_of_getElem? (i := 1590) (by decide +kernel), by decide +kernel⟩, ni_X13, by decide +kernel, by decide +kernel, by decide +kernel⟩
theorem mv_X13_fault : g_mv yX13_fault := ⟨List.mem_filter.mpr ⟨List.mem_of_getElem? (i := 1588) (by decide +kernel), by decide +kernel⟩, List.mem_filter.mpr ⟨List.mem_of_getElem? (i := 1589) (by decide +kernel), by decide +kernel⟩⟩
theorem my_X13_text : g_my yX13_text cX13_text 4 (some .int) 1 := ⟨List.mem_filter.mpr ⟨List.mem_of_getElem? (i := 1742) (by decide +kernel), by decide +kernel⟩, ni_X13, by decide +kernel, by decide +kernel, by decide +kernel⟩
theorem mv_X13_text : g_mv yX13_text := ⟨List.mem_filter.mpr ⟨List.mem_of_getElem? (i := 1740) (by decide +kernel), by decide +kernel⟩, List.mem_filter.mpr ⟨List.mem_of_getElem? (i := 1741) (by decide +kernel), by decide +kernel⟩⟩
theorem my_X13_call : g_my yX13_call cX13_call 3 (some .int) 1 := ⟨List.mem_filter.mpr ⟨List.mem_of_getElem? (i := 1747) (by decide +kernel), by decide +kernel⟩, ni_X13, by decide +kernel, by decide +kernel, by decide +kernel⟩
theorem mv_X13_call : g_mv yX13_call := ⟨List.mem_filter.mpr ⟨List.mem_of_getElem? (i := 1745) (by decide +kernel), by decide +kernel⟩, List.mem_filter.mpr ⟨List.mem_of_getElem? (i := 1746) (by decide +kernel), by decide +kernel⟩⟩
theorem my_X13_isSelf : g_my yX13_isSelf cX13_isSelf 2 (some .boolean) 1 := ⟨List.mem_filter.mpr ⟨List.mem_of_getElem? (i := 1756) (by decide +kernel), by decide +kernel⟩, ni_X13, by decide +kernel, by decide +kernel, by decide +kernel⟩
theorem mv_X13_isSelf : g_mv yX13_isSelf := ⟨List.mem_filter.mpr ⟨List.mem_of_getElem? (i := 1755) (by decide +kernel), by decide +kernel⟩, List.mem_filter.mpr ⟨List.mem_of_getElem? (i := 64) (by decide +kernel), by decide +kernel⟩⟩
theorem my_X13_isFork : g_my yX13_isFork cX13_isFork 2 (some .boolean) 1 := ⟨List.mem_filter.mpr ⟨List.mem_of_getElem? (i := 1785) (by decide +kernel), by decide +kernel⟩, ni_X13, by decide +kernel, by decide +kernel, by decide +kernel⟩
theorem mv_X13_isFork : g_mv yX13_isFork := ⟨List.mem_filter.mpr ⟨List.mem_of_getElem? (i := 1784) (by decide +kernel), by decide +kernel⟩, List.mem_filter.mpr ⟨List.mem_of_getElem? (i := 69) (by decide +kernel), by decide +kernel⟩⟩
theorem my_X13_isBranch : g_my yX13_isBranch cX13_isBranch 3 (some .boolean) 2 := ⟨List.mem_filter.mpr ⟨List.mem_of_getElem? (i := 1802) (by decide +kernel), by decide +kernel⟩, ni_X13, by decide +kernel, by decide +kernel, by decide +kernel⟩
theorem mv_X13_isBranch : g_mv yX13_isBranch := ⟨List.mem_filter.mpr ⟨List.mem_of_getElem? (i := 1801) (by decide +kernel), by decide +kernel⟩, List.mem_filter.mpr ⟨List.mem_of_getElem? (i := 72) (by decide +kernel), by decide +kernel⟩⟩
theorem my_X13_layWay : g_my yX13_layWay cX13_layWay 6 none 2 := ⟨List.mem_filter.mpr ⟨List.mem_of_getElem? (i := 1765) (by decide +kernel), by decide +kernel⟩, ni_X13, by decide +kernel, by decide +kernel, by decide +kernel⟩
theorem mv_X13_layWay : g_mv yX13_layWay := ⟨List.mem_filter.mpr ⟨List.mem_of_getElem? (i := 1764) (by decide +kernel), by decide +kernel⟩, List.mem_filter.mpr ⟨List.mem_of_getElem? (i := 66) (by decide +kernel), by decide +kernel⟩⟩
theorem my_X13_hasOf : g_my yX13_hasOf cX13_hasOf 5 (some .int) 2 := ⟨List.mem_filter.mpr ⟨List.mem_of_getElem? (i := 1761) (by decide +kernel), by decide +kernel⟩, ni_X13, by decide +kernel, by decide +kernel, by decide +kernel⟩
theorem mv_X13_hasOf : g_mv yX13_hasOf := ⟨List.mem_filter.mpr ⟨List.mem_of_getElem? (i := 1760) (by decide +kernel), by decide +kernel⟩, List.mem_filter.mpr ⟨List.mem_of_getElem? (i := 65) (by decide +kernel), by decide +kernel⟩⟩
theorem my_X13_factsOf : g_my yX13_factsOf cX13_factsOf 5 (some .int) 1 := ⟨List.mem_filter.mpr ⟨List.mem_of_getElem? (i := 1769) (by decide +kernel), by decide +kernel⟩, ni_X13, by decide +kernel, by decide +kernel, by decide +kernel⟩
theorem mv_X13_factsOf : g_mv yX13_factsOf := ⟨List.mem_filter.mpr ⟨List.mem_of_getElem? (i := 1768) (by decide +kernel), by decide +kernel⟩, List.mem_filter.mpr ⟨List.mem_of_getElem? (i := 67) (by decide +kernel), by decide +kernel⟩⟩
theorem my_X13_isThere : g_my yX13_isThere cX13_isThere 3 (some .boolean) 1 := ⟨List.mem_filter.mpr ⟨List.mem_of_getElem? (i := 1773) (by decide +kernel), by decide +kernel⟩, ni_X13, by decide +kernel, by decide +kernel, by decide +kernel⟩
theorem mv_X13_isThere : g_mv yX13_isThere := ⟨List.mem_filter.mpr ⟨List.mem_of_getElem? (i := 1772) (by decide +kernel), by decide +kernel⟩, List.mem_filter.mpr ⟨List.mem_of_getElem? (i := 68) (by decide +kernel), by decide +kernel⟩⟩
theorem my_X13_dead : g_my yX13_dead cX13_dead 2 (some .int) 1 := ⟨List.mem_filter.mpr ⟨List.mem_of_getElem? (i := 1870) (by decide +kernel), by decide +kernel⟩, ni_X13, by decide +kernel, by decide +kernel, by decide +kernel⟩
theorem mv_X13_dead : g_mv yX13_dead := ⟨List.mem_filter.mpr ⟨List.mem_of_getElem? (i := 1869) (by decide +kernel), by decide +kernel⟩, List.mem_filter.mpr ⟨List.mem_of_getElem? (i := 82) (by decide +kernel), by decide +kernel⟩⟩
theorem my_X13_self : g_my yX13_self cX13_self 3 (some .int) 2 := ⟨List.mem_filter.mpr ⟨List.mem_of_getElem? (i := 1752) (by decide +kernel), by decide +kernel⟩, ni_X13, by decide +kernel, by decide +kernel, by decide +kernel⟩
theorem mv_X13_self : g_mv yX13_self := ⟨List.mem_filter.mpr ⟨List.mem_of_getElem? (i := 1750) (by decide +kernel), by decide +kernel⟩, List.mem_filter.mpr ⟨List.mem_of_getElem? (i := 1751) (by decide +kernel), by decide +kernel⟩⟩
theorem my_X13_way : g_my yX13_way cX13_way 3 (some .int) 2 := ⟨List.mem_filter.mpr ⟨List.mem_of_getElem? (i := 1777) (by decide +kernel), by decide +kernel⟩, ni_X13, by decide +kernel, by decide +kernel, by decide +kernel⟩
theorem mv_X13_way : g_mv yX13_way := ⟨List.mem_filter.mpr ⟨List.mem_of_getElem? (i := 1775) (by decide +kernel), by decide +kernel⟩, List.mem_filter.mpr ⟨List.mem_of_getElem? (i := 1776) (by decide +kernel), by decide +kernel⟩⟩
theorem my_X13_openMany : g_my yX13_openMany cX13_openMany 4 (some .int) 1 := ⟨List.mem_filter.mpr ⟨List.mem_of_getElem? (i := 1790) (by decide +kernel), by decide +kernel⟩, ni_X13, by decide +kernel, by decide +kernel, by decide +kernel⟩
theorem mv_X13_openMany : g_mv yX13_openMany := ⟨List.mem_filter.mpr ⟨List.mem_of_getElem? (i := 1789) (by decide +kernel), by decide +kernel⟩, List.mem_filter.mpr ⟨List.mem_of_getElem? (i := 70) (by decide +kernel), by decide +kernel⟩⟩
theorem my_X13_behind : g_my yX13_behind cX13_behind 5 (some .int) 1 := ⟨List.mem_filter.mpr ⟨List.mem_of_getElem? (i := 1794) (by decide +kernel), by decide +kernel⟩, ni_X13, by decide +kernel, by decide +kernel, by decide +kernel⟩
theorem mv_X13_behind : g_mv yX13_behind := ⟨List.mem_filter.mpr ⟨List.mem_of_getElem? (i := 1793) (by decide +kernel), by decide +kernel⟩, List.mem_filter.mpr ⟨List.mem_of_getElem? (i := 71) (by decide +kernel), by decide +kernel⟩⟩
theorem my_X13_fork : g_my yX13_fork cX13_fork 3 (some .int) 2 := ⟨List.mem_filter.mpr ⟨List.mem_of_getElem? (i := 1781) (by decide +kernel), by decide +kernel⟩, ni_X13, by decide +kernel, by decide +kernel, by decide +kernel⟩
theorem mv_X13_fork : g_mv yX13_fork := ⟨List.mem_filter.mpr ⟨List.mem_of_getElem? (i := 1779) (by decide +kernel), by decide +kernel⟩, List.mem_filter.mpr ⟨List.mem_of_getElem? (i := 1780) (by decide +kernel), by decide +kernel⟩⟩
theorem my_X13_branch : g_my yX13_branch cX13_branch 4 (some .int) 3 := ⟨List.mem_filter.mpr ⟨List.mem_of_getElem? (i := 1798) (by decide +kernel), by decide +kernel⟩, ni_X13, by decide +kernel, by decide +kernel, by decide +kernel⟩
theorem mv_X13_branch : g_mv yX13_branch := ⟨List.mem_filter.mpr ⟨List.mem_of_getElem? (i := 1796) (by decide +kernel), by decide +kernel⟩, List.mem_filter.mpr ⟨List.mem_of_getElem? (i := 1797) (by decide +kernel), by decide +kernel⟩⟩
theorem my_X13_partOf : g_my yX13_partOf cX13_partOf 6 (some .int) 2 := ⟨List.mem_filter.mpr ⟨List.mem_of_getElem? (i := 1811) (by decide +kernel), by decide +kernel⟩, ni_X13, by decide +kernel, by decide +kernel, by decide +kernel⟩
theorem mv_X13_partOf : g_mv yX13_partOf := ⟨List.mem_filter.mpr ⟨List.mem_of_getElem? (i := 1810) (by decide +kernel), by decide +kernel⟩, List.mem_filter.mpr ⟨List.mem_of_getElem? (i := 73) (by decide +kernel), by decide +kernel⟩⟩
theorem my_X13_part_ : g_my yX13_part_ cX13_part_ 5 (some .int) 3 := ⟨List.mem_filter.mpr ⟨List.mem_of_getElem? (i := 1807) (by decide +kernel), by decide +kernel⟩, ni_X13, by decide +kernel, by decide +kernel, by decide +kernel⟩
theorem mv_X13_part_ : g_mv yX13_part_ := ⟨List.mem_filter.mpr ⟨List.mem_of_getElem? (i := 1805) (by decide +kernel), by decide +kernel⟩, List.mem_filter.mpr ⟨List.mem_of_getElem? (i := 1806) (by decide +kernel), by decide +kernel⟩⟩
theorem my_X13_remember : g_my yX13_remember cX13_remember 3 none 0 := ⟨List.mem_filter.mpr ⟨List.mem_of_getElem? (i := 1819) (by decide +kernel), by decide +kernel⟩, ni_X13, by decide +kernel, by decide +kernel, by decide +kernel⟩
theorem mv_X13_remember : g_mv yX13_remember := ⟨List.mem_filter.mpr ⟨List.mem_of_getElem? (i := 1818) (by decide +kernel), by decide +kernel⟩, List.mem_filter.mpr ⟨List.mem_of_getElem? (i := 74) (by decide +kernel), by decide +kernel⟩⟩
theorem my_X13_open : g_my yX13_open cX13_open 4 (some .int) 3 := ⟨List.mem_filter.mpr ⟨List.mem_of_getElem? (i := 1815) (by decide +kernel), by decide +kernel⟩, ni_X13, by decide +kernel, by decide +kernel, by decide +kernel⟩
theorem mv_X13_open : g_mv yX13_open := ⟨List.mem_filter.mpr ⟨List.mem_of_getElem? (i := 1813) (by decide +kernel), by decide +kernel⟩, List.mem_filter.mpr ⟨List.mem_of_getElem? (i := 1814) (by decide +kernel), by decide +kernel⟩⟩
theorem my_X13_set : g_my yX13_set cX13_set 4 (some .int) 2 := ⟨List.mem_filter.mpr ⟨List.mem_of_getElem? (i := 1823) (by decide +kernel), by decide +kernel⟩, ni_X13, by decide +kernel, by decide +kernel, by decide +kernel⟩
theorem mv_X13_set : g_mv yX13_set := ⟨List.mem_filter.mpr ⟨List.mem_of_getElem? (i := 1821) (by decide +kernel), by decide +kernel⟩, List.mem_filter.mpr ⟨List.mem_of_getElem? (i := 1822) (by decide +kernel), by decide +kernel⟩⟩
theorem my_X13_undo : g_my yX13_undo cX13_undo 2 (some .int) 0 := ⟨List.mem_filter.mpr ⟨List.mem_of_getElem? (i := 1829) (by decide +kernel), by decide +kernel⟩, ni_X13, by decide +kernel, by decide +kernel, by decide +kernel⟩
theorem mv_X13_undo : g_mv yX13_undo := ⟨List.mem_filter.mpr ⟨List.mem_of_getElem? (i := 1827) (by decide +kernel), by decide +kernel⟩, List.mem_filter.mpr ⟨List.mem_of_getElem? (i := 1828) (by decide +kernel), by decide +kernel⟩⟩
theorem my_X13_worthBy : g_my yX13_worthBy cX13_worthBy 2 (some .int) 1 := ⟨List.mem_filter.mpr ⟨List.mem_of_getElem? (i := 1854) (by decide +kernel), by decide +kernel⟩, ni_X13, by decide +kernel, by decide +kernel, by decide +kernel⟩
theorem mv_X13_worthBy : g_mv yX13_worthBy := ⟨List.mem_filter.mpr ⟨List.mem_of_getElem? (i := 1853) (by decide +kernel), by decide +kernel⟩, List.mem_filter.mpr ⟨List.mem_of_getElem? (i := 79) (by decide +kernel), by decide +kernel⟩⟩
theorem my_X13_ruleOf : g_my yX13_ruleOf cX13_ruleOf 4 (some .int) 2 := ⟨List.mem_filter.mpr ⟨List.mem_of_getElem? (i := 1850) (by decide +kernel), by decide +kernel⟩, ni_X13, by decide +kernel, by decide +kernel, by decide +kernel⟩
theorem mv_X13_ruleOf : g_mv yX13_ruleOf := ⟨List.mem_filter.mpr ⟨List.mem_of_getElem? (i := 1849) (by decide +kernel), by decide +kernel⟩, List.mem_filter.mpr ⟨List.mem_of_getElem? (i := 78) (by decide +kernel), by decide +kernel⟩⟩
theorem my_X13_choice : g_my yX13_choice cX13_choice 6 (some .int) 1 := ⟨List.mem_filter.mpr ⟨List.mem_of_getElem? (i := 1846) (by decide +kernel), by decide +kernel⟩, ni_X13, by decide +kernel, by decide +kernel, by decide +kernel⟩
theorem mv_X13_choice : g_mv yX13_choice := ⟨List.mem_filter.mpr ⟨List.mem_of_getElem? (i := 1845) (by decide +kernel), by decide +kernel⟩, List.mem_filter.mpr ⟨List.mem_of_getElem? (i := 77) (by decide +kernel), by decide +kernel⟩⟩
theorem my_X13_weights : g_my yX13_weights cX13_weights 4 (some .int) 1 := ⟨List.mem_filter.mpr ⟨List.mem_of_getElem? (i := 1842) (by decide +kernel), by decide +kernel⟩, ni_X13, by decide +kernel, by decide +kernel, by decide +kernel⟩
theorem mv_X13_weights : g_mv yX13_weights := ⟨List.mem_filter.mpr ⟨List.mem_of_getElem? (i := 1841) (by decide +kernel), by decide +kernel⟩, List.mem_filter.mpr ⟨List.mem_of_getElem? (i := 76) (by decide +kernel), by decide +kernel⟩⟩
theorem my_X13_oddsOf : g_my yX13_oddsOf cX13_oddsOf 7 (some .int) 1 := ⟨List.mem_filter.mpr ⟨List.mem_of_getElem? (i := 1837) (by decide +kernel), by decide +kernel⟩, ni_X13, by decide +kernel, by decide +kernel, by decide +kernel⟩
theorem mv_X13_oddsOf : g_mv yX13_oddsOf := ⟨List.mem_filter.mpr ⟨List.mem_of_getElem? (i := 1836) (by decide +kernel), by decide +kernel⟩, List.mem_filter.mpr ⟨List.mem_of_getElem? (i := 75) (by decide +kernel), by decide +kernel⟩⟩
theorem my_X13_odds : g_my yX13_odds cX13_odds 2 (some .int) 1 := ⟨List.mem_filter.mpr ⟨List.mem_of_getElem? (i := 1833) (by decide +kernel), by decide +kernel⟩, ni_X13, by decide +kernel, by decide +kernel, by decide +kernel⟩
theorem mv_X13_odds : g_mv yX13_odds := ⟨List.mem_filter.mpr ⟨List.mem_of_getElem? (i := 1831) (by decide +kernel), by decide +kernel⟩, List.mem_filter.mpr ⟨List.mem_of_getElem? (i := 1832) (by decide +kernel), by decide +kernel⟩⟩
theorem my_X13_layLetters : g_my yX13_layLetters cX13_layLetters 2 none 1 := ⟨List.mem_filter.mpr ⟨List.mem_of_getElem? (i := 1866) (by decide +kernel), by decide +kernel⟩, ni_X13, by decide +kernel, by decide +kernel, by decide +kernel⟩
theorem mv_X13_layLetters : g_mv yX13_layLetters := ⟨List.mem_filter.mpr ⟨List.mem_of_getElem? (i := 1865) (by decide +kernel), by decide +kernel⟩, List.mem_filter.mpr ⟨List.mem_of_getElem? (i := 81) (by decide +kernel), by decide +kernel⟩⟩
theorem my_X13_worthOf : g_my yX13_worthOf cX13_worthOf 2 (some .int) 1 := ⟨List.mem_filter.mpr ⟨List.mem_of_getElem? (i := 1862) (by decide +kernel), by decide +kernel⟩, ni_X13, by decide +kernel, by decide +kernel, by decide +kernel⟩
theorem mv_X13_worthOf : g_mv yX13_worthOf := ⟨List.mem_filter.mpr ⟨List.mem_of_getElem? (i := 1861) (by decide +kernel), by decide +kernel⟩, List.mem_filter.mpr ⟨List.mem_of_getElem? (i := 80) (by decide +kernel), by decide +kernel⟩⟩
theorem my_X13_worth : g_my yX13_worth cX13_worth 2 (some .int) 1 := ⟨List.mem_filter.mpr ⟨List.mem_of_getElem? (i := 1858) (by decide +kernel), by decide +kernel⟩, ni_X13, by decide +kernel, by decide +kernel, by decide +kernel⟩
theorem mv_X13_worth : g_mv yX13_worth := ⟨List.mem_filter.mpr ⟨List.mem_of_getElem? (i := 1856) (by decide +kernel), by decide +kernel⟩, List.mem_filter.mpr ⟨List.mem_of_getElem? (i := 1857) (by decide +kernel), by decide +kernel⟩⟩
theorem my_X13_mean : g_my yX13_mean cX13_mean 5 (some .int) 1 := ⟨List.mem_filter.mpr ⟨List.mem_of_getElem? (i := 1875) (by decide +kernel), by decide +kernel⟩, ni_X13, by decide +kernel, by decide +kernel, by decide +kernel⟩
theorem mv_X13_mean : g_mv yX13_mean := ⟨List.mem_filter.mpr ⟨List.mem_of_getElem? (i := 1873) (by decide +kernel), by decide +kernel⟩, List.mem_filter.mpr ⟨List.mem_of_getElem? (i := 1874) (by decide +kernel), by decide +kernel⟩⟩
theorem my_X13_valueOf : g_my yX13_valueOf cX13_valueOf 10 (some .long) 1 := ⟨List.mem_filter.mpr ⟨List.mem_of_getElem? (i := 1883) (by decide +kernel), by decide +kernel⟩, ni_X13, by decide +kernel, by decide +kernel, by decide +kernel⟩
theorem mv_X13_valueOf : g_mv yX13_valueOf := ⟨List.mem_filter.mpr ⟨List.mem_of_getElem? (i := 1882) (by decide +kernel), by decide +kernel⟩, List.mem_filter.mpr ⟨List.mem_of_getElem? (i := 83) (by decide +kernel), by decide +kernel⟩⟩
theorem my_X13_behindOf : g_my yX13_behindOf cX13_behindOf 3 (some .long) 2 := ⟨List.mem_filter.mpr ⟨List.mem_of_getElem? (i := 1888) (by decide +kernel), by decide +kernel⟩, ni_X13, by decide +kernel, by decide +kernel, by decide +kernel⟩
theorem mv_X13_behindOf : g_mv yX13_behindOf := ⟨List.mem_filter.mpr ⟨List.mem_of_getElem? (i := 1887) (by decide +kernel), by decide +kernel⟩, List.mem_filter.mpr ⟨List.mem_of_getElem? (i := 84) (by decide +kernel), by decide +kernel⟩⟩
theorem my_X13_value : g_my yX13_value cX13_value 3 (some .int) 2 := ⟨List.mem_filter.mpr ⟨List.mem_of_getElem? (i := 1879) (by decide +kernel), by decide +kernel⟩, ni_X13, by decide +kernel, by decide +kernel, by decide +kernel⟩
theorem mv_X13_value : g_mv yX13_value := ⟨List.mem_filter.mpr ⟨List.mem_of_getElem? (i := 1877) (by decide +kernel), by decide +kernel⟩, List.mem_filter.mpr ⟨List.mem_of_getElem? (i := 1878) (by decide +kernel), by decide +kernel⟩⟩
theorem my_X13_advice : g_my yX13_advice cX13_advice 8 (some .int) 1 := ⟨List.mem_filter.mpr ⟨List.mem_of_getElem? (i := 1892) (by decide +kernel), by decide +kernel⟩, ni_X13, by decide +kernel, by decide +kernel, by decide +kernel⟩
theorem mv_X13_advice : g_mv yX13_advice := ⟨List.mem_filter.mpr ⟨List.mem_of_getElem? (i := 1890) (by decide +kernel), by decide +kernel⟩, List.mem_filter.mpr ⟨List.mem_of_getElem? (i := 1891) (by decide +kernel), by decide +kernel⟩⟩
theorem my_X13_regretOf : g_my yX13_regretOf cX13_regretOf 3 (some .long) 2 := ⟨List.mem_filter.mpr ⟨List.mem_of_getElem? (i := 1904) (by decide +kernel), by decide +kernel⟩, ni_X13, by decide +kernel, by decide +kernel, by decide +kernel⟩
theorem mv_X13_regretOf : g_mv yX13_regretOf := ⟨List.mem_filter.mpr ⟨List.mem_of_getElem? (i := 1903) (by decide +kernel), by decide +kernel⟩, List.mem_filter.mpr ⟨List.mem_of_getElem? (i := 86) (by decide +kernel), by decide +kernel⟩⟩
theorem my_X13_branchOn : g_my yX13_branchOn cX13_branchOn 4 (some .int) 2 := ⟨List.mem_filter.mpr ⟨List.mem_of_getElem? (i := 1900) (by decide +kernel), by decide +kernel⟩, ni_X13, by decide +kernel, by decide +kernel, by decide +kernel⟩
theorem mv_X13_branchOn : g_mv yX13_branchOn := ⟨List.mem_filter.mpr ⟨List.mem_of_getElem? (i := 1899) (by decide +kernel), by decide +kernel⟩, List.mem_filter.mpr ⟨List.mem_of_getElem? (i := 85) (by decide +kernel), by decide +kernel⟩⟩
theorem my_X13_regret : g_my yX13_regret cX13_regret 3 (some .int) 2 := ⟨List.mem_filter.mpr ⟨List.mem_of_getElem? (i := 1896) (by decide +kernel), by decide +kernel⟩, ni_X13, by decide +kernel, by decide +kernel, by decide +kernel⟩
theorem mv_X13_regret : g_mv yX13_regret := ⟨List.mem_filter.mpr ⟨List.mem_of_getElem? (i := 1894) (by decide +kernel), by decide +kernel⟩, List.mem_filter.mpr ⟨List.mem_of_getElem? (i := 1895) (by decide +kernel), by decide +kernel⟩⟩
theorem my_X13_regretsOf : g_my yX13_regretsOf cX13_regretsOf 5 (some .long) 1 := ⟨List.mem_filter.mpr ⟨List.mem_of_getElem? (i := 1912) (by decide +kernel), by decide +kernel⟩, ni_X13, by decide +kernel, by decide +kernel, by decide +kernel⟩
theorem mv_X13_regretsOf : g_mv yX13_regretsOf := ⟨List.mem_filter.mpr ⟨List.mem_of_getElem? (i := 1911) (by decide +kernel), by decide +kernel⟩, List.mem_filter.mpr ⟨List.mem_of_getElem? (i := 87) (by decide +kernel), by decide +kernel⟩⟩
theorem my_X13_sore : g_my yX13_sore cX13_sore 10 (some .int) 2 := ⟨List.mem_filter.mpr ⟨List.mem_of_getElem? (i := 1908) (by decide +kernel), by decide +kernel⟩, ni_X13, by decide +kernel, by decide +kernel, by decide +kernel⟩
theorem mv_X13_sore : g_mv yX13_sore := ⟨List.mem_filter.mpr ⟨List.mem_of_getElem? (i := 1906) (by decide +kernel), by decide +kernel⟩, List.mem_filter.mpr ⟨List.mem_of_getElem? (i := 1907) (by decide +kernel), by decide +kernel⟩⟩
theorem my_X13_apology : g_my yX13_apology cX13_apology 4 (some .int) 2 := ⟨List.mem_filter.mpr ⟨List.mem_of_getElem? (i := 1916) (by decide +kernel), by decide +kernel⟩, ni_X13, by decide +kernel, by decide +kernel, by decide +kernel⟩
theorem mv_X13_apology : g_mv yX13_apology := ⟨List.mem_filter.mpr ⟨List.mem_of_getElem? (i := 1914) (by decide +kernel), by decide +kernel⟩, List.mem_filter.mpr ⟨List.mem_of_getElem? (i := 1915) (by decide +kernel), by decide +kernel⟩⟩
theorem my_X13_isLaw : g_my yX13_isLaw cX13_isLaw 2 (some .boolean) 1 := ⟨List.mem_filter.mpr ⟨List.mem_of_getElem? (i := 1929) (by decide +kernel), by decide +kernel⟩, ni_X13, by decide +kernel, by decide +kernel, by decide +kernel⟩
theorem mv_X13_isLaw : g_mv yX13_isLaw := ⟨List.mem_filter.mpr ⟨List.mem_of_getElem? (i := 1928) (by decide +kernel), by decide +kernel⟩, List.mem_filter.mpr ⟨List.mem_of_getElem? (i := 89) (by decide +kernel), by decide +kernel⟩⟩
theorem my_X13_weightOf : g_my yX13_weightOf cX13_weightOf 2 (some .long) 1 := ⟨List.mem_filter.mpr ⟨List.mem_of_getElem? (i := 1925) (by decide +kernel), by decide +kernel⟩, ni_X13, by decide +kernel, by decide +kernel, by decide +kernel⟩
theorem mv_X13_weightOf : g_mv yX13_weightOf := ⟨List.mem_filter.mpr ⟨List.mem_of_getElem? (i := 1924) (by decide +kernel), by decide +kernel⟩, List.mem_filter.mpr ⟨List.mem_of_getElem? (i := 88) (by decide +kernel), by decide +kernel⟩⟩
theorem my_X13_share : g_my yX13_share cX13_share 9 (some .int) 2 := ⟨List.mem_filter.mpr ⟨List.mem_of_getElem? (i := 1920) (by decide +kernel), by decide +kernel⟩, ni_X13, by decide +kernel, by decide +kernel, by decide +kernel⟩
theorem mv_X13_share : g_mv yX13_share := ⟨List.mem_filter.mpr ⟨List.mem_of_getElem? (i := 1918) (by decide +kernel), by decide +kernel⟩, List.mem_filter.mpr ⟨List.mem_of_getElem? (i := 1919) (by decide +kernel), by decide +kernel⟩⟩
theorem my_X13_demandOf : g_my yX13_demandOf cX13_demandOf 2 (some .int) 1 := ⟨List.mem_filter.mpr ⟨List.mem_of_getElem? (i := 1937) (by decide +kernel), by decide +kernel⟩, ni_X13, by decide +kernel, by decide +kernel, by decide +kernel⟩
theorem mv_X13_demandOf : g_mv yX13_demandOf := ⟨List.mem_filter.mpr ⟨List.mem_of_getElem? (i := 1936) (by decide +kernel), by decide +kernel⟩, List.mem_filter.mpr ⟨List.mem_of_getElem? (i := 90) (by decide +kernel), by decide +kernel⟩⟩
theorem my_X13_demand : g_my yX13_demand cX13_demand 2 (some .int) 1 := ⟨List.mem_filter.mpr ⟨List.mem_of_getElem? (i := 1933) (by decide +kernel), by decide +kernel⟩, ni_X13, by decide +kernel, by decide +kernel, by decide +kernel⟩
theorem mv_X13_demand : g_mv yX13_demand := ⟨List.mem_filter.mpr ⟨List.mem_of_getElem? (i := 1931) (by decide +kernel), by decide +kernel⟩, List.mem_filter.mpr ⟨List.mem_of_getElem? (i := 1932) (by decide +kernel), by decide +kernel⟩⟩
theorem my_X13_demands : g_my yX13_demands cX13_demands 4 (some .int) 1 := ⟨List.mem_filter.mpr ⟨List.mem_of_getElem? (i := 1945) (by decide +kernel), by decide +kernel⟩, ni_X13, by decide +kernel, by decide +kernel, by decide +kernel⟩
theorem mv_X13_demands : g_mv yX13_demands := ⟨List.mem_filter.mpr ⟨List.mem_of_getElem? (i := 1944) (by decide +kernel), by decide +kernel⟩, List.mem_filter.mpr ⟨List.mem_of_getElem? (i := 91) (by decide +kernel), by decide +kernel⟩⟩
theorem my_X13_terms : g_my yX13_terms cX13_terms 2 (some .int) 1 := ⟨List.mem_filter.mpr ⟨List.mem_of_getElem? (i := 1941) (by decide +kernel), by decide +kernel⟩, ni_X13, by decide +kernel, by decide +kernel, by decide +kernel⟩
theorem mv_X13_terms : g_mv yX13_terms := ⟨List.mem_filter.mpr ⟨List.mem_of_getElem? (i := 1939) (by decide +kernel), by decide +kernel⟩, List.mem_filter.mpr ⟨List.mem_of_getElem? (i := 1940) (by decide +kernel), by decide +kernel⟩⟩
theorem my_X13_thereBits : g_my yX13_thereBits cX13_thereBits 3 (some .int) 0 := ⟨List.mem_filter.mpr ⟨List.mem_of_getElem? (i := 1953) (by decide +kernel), by decide +kernel⟩, ni_X13, by decide +kernel, by decide +kernel, by decide +kernel⟩
theorem mv_X13_thereBits : g_mv yX13_thereBits := ⟨List.mem_filter.mpr ⟨List.mem_of_getElem? (i := 1952) (by decide +kernel), by decide +kernel⟩, List.mem_filter.mpr ⟨List.mem_of_getElem? (i := 92) (by decide +kernel), by decide +kernel⟩⟩
theorem my_X13_away : g_my yX13_away cX13_away 7 (some .int) 1 := ⟨List.mem_filter.mpr ⟨List.mem_of_getElem? (i := 1949) (by decide +kernel), by decide +kernel⟩, ni_X13, by decide +kernel, by decide +kernel, by decide +kernel⟩
theorem mv_X13_away : g_mv yX13_away := ⟨List.mem_filter.mpr ⟨List.mem_of_getElem? (i := 1947) (by decide +kernel), by decide +kernel⟩, List.mem_filter.mpr ⟨List.mem_of_getElem? (i := 1948) (by decide +kernel), by decide +kernel⟩⟩
theorem my_X13_isVoter : g_my yX13_isVoter cX13_isVoter 2 (some .boolean) 1 := ⟨List.mem_filter.mpr ⟨List.mem_of_getElem? (i := 1962) (by decide +kernel), by decide +kernel⟩, ni_X13, by decide +kernel, by decide +kernel, by decide +kernel⟩
theorem mv_X13_isVoter : g_mv yX13_isVoter := ⟨List.mem_filter.mpr ⟨List.mem_of_getElem? (i := 1961) (by decide +kernel), by decide +kernel⟩, List.mem_filter.mpr ⟨List.mem_of_getElem? (i := 93) (by decide +kernel), by decide +kernel⟩⟩
theorem my_X13_motionFor : g_my yX13_motionFor cX13_motionFor 6 (some .int) 1 := ⟨List.mem_filter.mpr ⟨List.mem_of_getElem? (i := 1966) (by decide +kernel), by decide +kernel⟩, ni_X13, by decide +kernel, by decide +kernel, by decide +kernel⟩
theorem mv_X13_motionFor : g_mv yX13_motionFor := ⟨List.mem_filter.mpr ⟨List.mem_of_getElem? (i := 1965) (by decide +kernel), by decide +kernel⟩, List.mem_filter.mpr ⟨List.mem_of_getElem? (i := 94) (by decide +kernel), by decide +kernel⟩⟩
theorem my_X13_elected : g_my yX13_elected cX13_elected 7 (some .int) 1 := ⟨List.mem_filter.mpr ⟨List.mem_of_getElem? (i := 1958) (by decide +kernel), by decide +kernel⟩, ni_X13, by decide +kernel, by decide +kernel, by decide +kernel⟩
theorem mv_X13_elected : g_mv yX13_elected := ⟨List.mem_filter.mpr ⟨List.mem_of_getElem? (i := 1956) (by decide +kernel), by decide +kernel⟩, List.mem_filter.mpr ⟨List.mem_of_getElem? (i := 1957) (by decide +kernel), by decide +kernel⟩⟩
theorem my_X13_duelOf : g_my yX13_duelOf cX13_duelOf 6 (some .int) 2 := ⟨List.mem_filter.mpr ⟨List.mem_of_getElem? (i := 1978) (by decide +kernel), by decide +kernel⟩, ni_X13, by decide +kernel, by decide +kernel, by decide +kernel⟩
theorem mv_X13_duelOf : g_mv yX13_duelOf := ⟨List.mem_filter.mpr ⟨List.mem_of_getElem? (i := 1977) (by decide +kernel), by decide +kernel⟩, List.mem_filter.mpr ⟨List.mem_of_getElem? (i := 96) (by decide +kernel), by decide +kernel⟩⟩
theorem my_X13_isTaste : g_my yX13_isTaste cX13_isTaste 2 (some .boolean) 1 := ⟨List.mem_filter.mpr ⟨List.mem_of_getElem? (i := 1974) (by decide +kernel), by decide +kernel⟩, ni_X13, by decide +kernel, by decide +kernel, by decide +kernel⟩
theorem mv_X13_isTaste : g_mv yX13_isTaste := ⟨List.mem_filter.mpr ⟨List.mem_of_getElem? (i := 1973) (by decide +kernel), by decide +kernel⟩, List.mem_filter.mpr ⟨List.mem_of_getElem? (i := 95) (by decide +kernel), by decide +kernel⟩⟩
theorem my_X13_duel : g_my yX13_duel cX13_duel 3 (some .int) 2 := ⟨List.mem_filter.mpr ⟨List.mem_of_getElem? (i := 1970) (by decide +kernel), by decide +kernel⟩, ni_X13, by decide +kernel, by decide +kernel, by decide +kernel⟩
theorem mv_X13_duel : g_mv yX13_duel := ⟨List.mem_filter.mpr ⟨List.mem_of_getElem? (i := 1968) (by decide +kernel), by decide +kernel⟩, List.mem_filter.mpr ⟨List.mem_of_getElem? (i := 1969) (by decide +kernel), by decide +kernel⟩⟩
theorem my_X13_beats : g_my yX13_beats cX13_beats 4 (some .int) 0 := ⟨List.mem_filter.mpr ⟨List.mem_of_getElem? (i := 1985) (by decide +kernel), by decide +kernel⟩, ni_X13, by decide +kernel, by decide +kernel, by decide +kernel⟩
theorem mv_X13_beats : g_mv yX13_beats := ⟨List.mem_filter.mpr ⟨List.mem_of_getElem? (i := 1983) (by decide +kernel), by decide +kernel⟩, List.mem_filter.mpr ⟨List.mem_of_getElem? (i := 1984) (by decide +kernel), by decide +kernel⟩⟩
theorem my_X13_ring : g_my yX13_ring cX13_ring 4 (some .int) 0 := ⟨List.mem_filter.mpr ⟨List.mem_of_getElem? (i := 1989) (by decide +kernel), by decide +kernel⟩, ni_X13, by decide +kernel, by decide +kernel, by decide +kernel⟩
theorem mv_X13_ring : g_mv yX13_ring := ⟨List.mem_filter.mpr ⟨List.mem_of_getElem? (i := 1987) (by decide +kernel), by decide +kernel⟩, List.mem_filter.mpr ⟨List.mem_of_getElem? (i := 1988) (by decide +kernel), by decide +kernel⟩⟩
theorem my_X13_all : g_my yX13_all cX13_all 4 (some .int) 1 := ⟨List.mem_filter.mpr ⟨List.mem_of_getElem? (i := 1993) (by decide +kernel), by decide +kernel⟩, ni_X13, by decide +kernel, by decide +kernel, by decide +kernel⟩
theorem mv_X13_all : g_mv yX13_all := ⟨List.mem_filter.mpr ⟨List.mem_of_getElem? (i := 1991) (by decide +kernel), by decide +kernel⟩, List.mem_filter.mpr ⟨List.mem_of_getElem? (i := 1992) (by decide +kernel), by decide +kernel⟩⟩
theorem my_X13_layFacts : g_my yX13_layFacts cX13_layFacts 2 none 0 := ⟨List.mem_filter.mpr ⟨List.mem_of_getElem? (i := 2001) (by decide +kernel), by decide +kernel⟩, ni_X13, by decide +kernel, by decide +kernel, by decide +kernel⟩
theorem mv_X13_layFacts : g_mv yX13_layFacts := ⟨List.mem_filter.mpr ⟨List.mem_of_getElem? (i := 2000) (by decide +kernel), by decide +kernel⟩, List.mem_filter.mpr ⟨List.mem_of_getElem? (i := 97) (by decide +kernel), by decide +kernel⟩⟩
theorem my_X13_telling : g_my yX13_telling cX13_telling 7 (some .int) 1 := ⟨List.mem_filter.mpr ⟨List.mem_of_getElem? (i := 1997) (by decide +kernel), by decide +kernel⟩, ni_X13, by decide +kernel, by decide +kernel, by decide +kernel⟩
theorem mv_X13_telling : g_mv yX13_telling := ⟨List.mem_filter.mpr ⟨List.mem_of_getElem? (i := 1995) (by decide +kernel), by decide +kernel⟩, List.mem_filter.mpr ⟨List.mem_of_getElem? (i := 1996) (by decide +kernel), by decide +kernel⟩⟩
theorem my_X13_twins : g_my yX13_twins cX13_twins 4 (some .int) 1 := ⟨List.mem_filter.mpr ⟨List.mem_of_getElem? (i := 2005) (by decide +kernel), by decide +kernel⟩, ni_X13, by decide +kernel, by decide +kernel, by decide +kernel⟩
theorem mv_X13_twins : g_mv yX13_twins := ⟨List.mem_filter.mpr ⟨List.mem_of_getElem? (i := 2003) (by decide +kernel), by decide +kernel⟩, List.mem_filter.mpr ⟨List.mem_of_getElem? (i := 2004) (by decide +kernel), by decide +kernel⟩⟩
theorem my_X13_sentence : g_my yX13_sentence cX13_sentence 6 (some .int) 0 := ⟨List.mem_filter.mpr ⟨List.mem_of_getElem? (i := 2009) (by decide +kernel), by decide +kernel⟩, ni_X13, by decide +kernel, by decide +kernel, by decide +kernel⟩
theorem mv_X13_sentence : g_mv yX13_sentence := ⟨List.mem_filter.mpr ⟨List.mem_of_getElem? (i := 2007) (by decide +kernel), by decide +kernel⟩, List.mem_filter.mpr ⟨List.mem_of_getElem? (i := 2008) (by decide +kernel), by decide +kernel⟩⟩
theorem my_X13_leads : g_my yX13_leads cX13_leads 4 (some .int) 2 := ⟨List.mem_filter.mpr ⟨List.mem_of_getElem? (i := 2013) (by decide +kernel), by decide +kernel⟩, ni_X13, by decide +kernel, by decide +kernel, by decide +kernel⟩
theorem mv_X13_leads : g_mv yX13_leads := ⟨List.mem_filter.mpr ⟨List.mem_of_getElem? (i := 2011) (by decide +kernel), by decide +kernel⟩, List.mem_filter.mpr ⟨List.mem_of_getElem? (i := 2012) (by decide +kernel), by decide +kernel⟩⟩
theorem my_X13_clue : g_my yX13_clue cX13_clue 4 (some .int) 3 := ⟨List.mem_filter.mpr ⟨List.mem_of_getElem? (i := 2018) (by decide +kernel), by decide +kernel⟩, ni_X13, by decide +kernel, by decide +kernel, by decide +kernel⟩
theorem mv_X13_clue : g_mv yX13_clue := ⟨List.mem_filter.mpr ⟨List.mem_of_getElem? (i := 2016) (by decide +kernel), by decide +kernel⟩, List.mem_filter.mpr ⟨List.mem_of_getElem? (i := 2017) (by decide +kernel), by decide +kernel⟩⟩
theorem my_X13_isSo : g_my yX13_isSo cX13_isSo 4 (some .boolean) 2 := ⟨List.mem_filter.mpr ⟨List.mem_of_getElem? (i := 2027) (by decide +kernel), by decide +kernel⟩, ni_X13, by decide +kernel, by decide +kernel, by decide +kernel⟩
theorem mv_X13_isSo : g_mv yX13_isSo := ⟨List.mem_filter.mpr ⟨List.mem_of_getElem? (i := 2026) (by decide +kernel), by decide +kernel⟩, List.mem_filter.mpr ⟨List.mem_of_getElem? (i := 98) (by decide +kernel), by decide +kernel⟩⟩
theorem my_X13_can : g_my yX13_can cX13_can 6 (some .int) 1 := ⟨List.mem_filter.mpr ⟨List.mem_of_getElem? (i := 2023) (by decide +kernel), by decide +kernel⟩, ni_X13, by decide +kernel, by decide +kernel, by decide +kernel⟩
theorem mv_X13_can : g_mv yX13_can := ⟨List.mem_filter.mpr ⟨List.mem_of_getElem? (i := 2021) (by decide +kernel), by decide +kernel⟩, List.mem_filter.mpr ⟨List.mem_of_getElem? (i := 2022) (by decide +kernel), by decide +kernel⟩⟩
theorem my_X13_crossOf : g_my yX13_crossOf cX13_crossOf 8 (some .int) 4 := ⟨List.mem_filter.mpr ⟨List.mem_of_getElem? (i := 2039) (by decide +kernel), by decide +kernel⟩, ni_X13, by decide +kernel, by decide +kernel, by decide +kernel⟩
theorem mv_X13_crossOf : g_mv yX13_crossOf := ⟨List.mem_filter.mpr ⟨List.mem_of_getElem? (i := 2038) (by decide +kernel), by decide +kernel⟩, List.mem_filter.mpr ⟨List.mem_of_getElem? (i := 100) (by decide +kernel), by decide +kernel⟩⟩
theorem my_X13_hasIn : g_my yX13_hasIn cX13_hasIn 6 (some .boolean) 4 := ⟨List.mem_filter.mpr ⟨List.mem_of_getElem? (i := 2043) (by decide +kernel), by decide +kernel⟩, ni_X13, by decide +kernel, by decide +kernel, by decide +kernel⟩
theorem mv_X13_hasIn : g_mv yX13_hasIn := ⟨List.mem_filter.mpr ⟨List.mem_of_getElem? (i := 2042) (by decide +kernel), by decide +kernel⟩, List.mem_filter.mpr ⟨List.mem_of_getElem? (i := 101) (by decide +kernel), by decide +kernel⟩⟩
theorem my_X13_isCode : g_my yX13_isCode cX13_isCode 2 (some .boolean) 1 := ⟨List.mem_filter.mpr ⟨List.mem_of_getElem? (i := 2035) (by decide +kernel), by decide +kernel⟩, ni_X13, by decide +kernel, by decide +kernel, by decide +kernel⟩
theorem mv_X13_isCode : g_mv yX13_isCode := ⟨List.mem_filter.mpr ⟨List.mem_of_getElem? (i := 2034) (by decide +kernel), by decide +kernel⟩, List.mem_filter.mpr ⟨List.mem_of_getElem? (i := 99) (by decide +kernel), by decide +kernel⟩⟩
theorem my_X13_cross : g_my yX13_cross cX13_cross 3 (some .int) 2 := ⟨List.mem_filter.mpr ⟨List.mem_of_getElem? (i := 2031) (by decide +kernel), by decide +kernel⟩, ni_X13, by decide +kernel, by decide +kernel, by decide +kernel⟩
theorem mv_X13_cross : g_mv yX13_cross := ⟨List.mem_filter.mpr ⟨List.mem_of_getElem? (i := 2029) (by decide +kernel), by decide +kernel⟩, List.mem_filter.mpr ⟨List.mem_of_getElem? (i := 2030) (by decide +kernel), by decide +kernel⟩⟩
theorem my_X13_meetings : g_my yX13_meetings cX13_meetings 10 (some .int) 3 := ⟨List.mem_filter.mpr ⟨List.mem_of_getElem? (i := 2047) (by decide +kernel), by decide +kernel⟩, ni_X13, by decide +kernel, by decide +kernel, by decide +kernel⟩
theorem mv_X13_meetings : g_mv yX13_meetings := ⟨List.mem_filter.mpr ⟨List.mem_of_getElem? (i := 2045) (by decide +kernel), by decide +kernel⟩, List.mem_filter.mpr ⟨List.mem_of_getElem? (i := 2046) (by decide +kernel), by decide +kernel⟩⟩
theorem my_X13_draw : g_my yX13_draw cX13_draw 2 (some .int) 1 := ⟨List.mem_filter.mpr ⟨List.mem_of_getElem? (i := 2063) (by decide +kernel), by decide +kernel⟩, ni_X13, by decide +kernel, by decide +kernel, by decide +kernel⟩
theorem mv_X13_draw : g_mv yX13_draw := ⟨List.mem_filter.mpr ⟨List.mem_of_getElem? (i := 2062) (by decide +kernel), by decide +kernel⟩, List.mem_filter.mpr ⟨List.mem_of_getElem? (i := 104) (by decide +kernel), by decide +kernel⟩⟩
theorem my_X13_drawnAt : g_my yX13_drawnAt cX13_drawnAt 6 (some .int) 2 := ⟨List.mem_filter.mpr ⟨List.mem_of_getElem? (i := 2059) (by decide +kernel), by decide +kernel⟩, ni_X13, by decide +kernel, by decide +kernel, by decide +kernel⟩
theorem mv_X13_drawnAt : g_mv yX13_drawnAt := ⟨List.mem_filter.mpr ⟨List.mem_of_getElem? (i := 2058) (by decide +kernel), by decide +kernel⟩, List.mem_filter.mpr ⟨List.mem_of_getElem? (i := 103) (by decide +kernel), by decide +kernel⟩⟩
theorem my_X13_goBirth : g_my yX13_goBirth cX13_goBirth 5 (some .int) 0 := ⟨List.mem_filter.mpr ⟨List.mem_of_getElem? (i := 2055) (by decide +kernel), by decide +kernel⟩, ni_X13, by decide +kernel, by decide +kernel, by decide +kernel⟩
theorem mv_X13_goBirth : g_mv yX13_goBirth := ⟨List.mem_filter.mpr ⟨List.mem_of_getElem? (i := 2054) (by decide +kernel), by decide +kernel⟩, List.mem_filter.mpr ⟨List.mem_of_getElem? (i := 102) (by decide +kernel), by decide +kernel⟩⟩
theorem my_X13_birthday : g_my yX13_birthday cX13_birthday 3 (some .int) 1 := ⟨List.mem_filter.mpr ⟨List.mem_of_getElem? (i := 2051) (by decide +kernel), by decide +kernel⟩, ni_X13, by decide +kernel, by decide +kernel, by decide +kernel⟩
theorem mv_X13_birthday : g_mv yX13_birthday := ⟨List.mem_filter.mpr ⟨List.mem_of_getElem? (i := 2049) (by decide +kernel), by decide +kernel⟩, List.mem_filter.mpr ⟨List.mem_of_getElem? (i := 2050) (by decide +kernel), by decide +kernel⟩⟩
theorem my_X13_born : g_my yX13_born cX13_born 2 (some .int) 1 := ⟨List.mem_filter.mpr ⟨List.mem_of_getElem? (i := 2069) (by decide +kernel), by decide +kernel⟩, ni_X13, by decide +kernel, by decide +kernel, by decide +kernel⟩
theorem mv_X13_born : g_mv yX13_born := ⟨List.mem_filter.mpr ⟨List.mem_of_getElem? (i := 2067) (by decide +kernel), by decide +kernel⟩, List.mem_filter.mpr ⟨List.mem_of_getElem? (i := 2068) (by decide +kernel), by decide +kernel⟩⟩
theorem my_X13_take : g_my yX13_take cX13_take 1 (some .int) 0 := ⟨List.mem_filter.mpr ⟨List.mem_of_getElem? (i := 2073) (by decide +kernel), by decide +kernel⟩, ni_X13, by decide +kernel, by decide +kernel, by decide +kernel⟩
theorem mv_X13_take : g_mv yX13_take := ⟨List.mem_filter.mpr ⟨List.mem_of_getElem? (i := 2071) (by decide +kernel), by decide +kernel⟩, List.mem_filter.mpr ⟨List.mem_of_getElem? (i := 2072) (by decide +kernel), by decide +kernel⟩⟩
theorem my_X13_town : g_my yX13_town cX13_town 7 (some .int) 3 := ⟨List.mem_filter.mpr ⟨List.mem_of_getElem? (i := 2077) (by decide +kernel), by decide +kernel⟩, ni_X13, by decide +kernel, by decide +kernel, by decide +kernel⟩
theorem mv_X13_town : g_mv yX13_town := ⟨List.mem_filter.mpr ⟨List.mem_of_getElem? (i := 2075) (by decide +kernel), by decide +kernel⟩, List.mem_filter.mpr ⟨List.mem_of_getElem? (i := 2076) (by decide +kernel), by decide +kernel⟩⟩
theorem my_X13_image : g_my yX13_image cX13_image 2 (some .int) 0 := ⟨List.mem_filter.mpr ⟨List.mem_of_getElem? (i := 2081) (by decide +kernel), by decide +kernel⟩, ni_X13, by decide +kernel, by decide +kernel, by decide +kernel⟩
theorem mv_X13_image : g_mv yX13_image := ⟨List.mem_filter.mpr ⟨List.mem_of_getElem? (i := 2079) (by decide +kernel), by decide +kernel⟩, List.mem_filter.mpr ⟨List.mem_of_getElem? (i := 2080) (by decide +kernel), by decide +kernel⟩⟩
theorem my_X13_back : g_my yX13_back cX13_back 2 (some .int) 0 := ⟨List.mem_filter.mpr ⟨List.mem_of_getElem? (i := 2085) (by decide +kernel), by decide +kernel⟩, ni_X13, by decide +kernel, by decide +kernel, by decide +kernel⟩
theorem mv_X13_back : g_mv yX13_back := ⟨List.mem_filter.mpr ⟨List.mem_of_getElem? (i := 2083) (by decide +kernel), by decide +kernel⟩, List.mem_filter.mpr ⟨List.mem_of_getElem? (i := 2084) (by decide +kernel), by decide +kernel⟩⟩
theorem my_X13_count : g_my yX13_count cX13_count 2 (some .int) 1 := ⟨List.mem_filter.mpr ⟨List.mem_of_getElem? (i := 2089) (by decide +kernel), by decide +kernel⟩, ni_X13, by decide +kernel, by decide +kernel, by decide +kernel⟩
theorem mv_X13_count : g_mv yX13_count := ⟨List.mem_filter.mpr ⟨List.mem_of_getElem? (i := 2087) (by decide +kernel), by decide +kernel⟩, List.mem_filter.mpr ⟨List.mem_of_getElem? (i := 2088) (by decide +kernel), by decide +kernel⟩⟩
theorem my_J11_isValidCodePoint_9a6ad : g_my yJ11_isValidCodePoint_9a6ad cJ11_isValidCodePoint_9a6ad 2 (some .boolean) 1 := ⟨List.mem_filter.mpr ⟨List.mem_of_getElem? (i := 674) (by decide +kernel), by decide +kernel⟩, ni_J11, by decide +kernel, by decide +kernel, by decide +kernel⟩
theorem ms_J11_isValidCodePoint_9a6ad : Cond.static yJ11_isValidCodePoint_9a6ad ∈ g_tb := List.mem_filter.mpr ⟨List.mem_of_getElem? (i := 673) (by decide +kernel), by decide +kernel⟩
theorem my_J11_highSurrogate_5068e : g_my yJ11_highSurrogate_5068e cJ11_highSurrogate_5068e 1 (some .char) 1 := ⟨List.mem_filter.mpr ⟨List.mem_of_getElem? (i := 677) (by decide +kernel), by decide +kernel⟩, ni_J11, by decide +kernel, by decide +kernel, by decide +kernel⟩
theorem ms_J11_highSurrogate_5068e : Cond.static yJ11_highSurrogate_5068e ∈ g_tb := List.mem_filter.mpr ⟨List.mem_of_getElem? (i := 676) (by decide +kernel), by decide +kernel⟩
theorem my_J11_lowSurrogate_5068e : g_my yJ11_lowSurrogate_5068e cJ11_lowSurrogate_5068e 1 (some .char) 1 := ⟨List.mem_filter.mpr ⟨List.mem_of_getElem? (i := 681) (by decide +kernel), by decide +kernel⟩, ni_J11, by decide +kernel, by decide +kernel, by decide +kernel⟩
theorem ms_J11_lowSurrogate_5068e : Cond.static yJ11_lowSurrogate_5068e ∈ g_tb := List.mem_filter.mpr ⟨List.mem_of_getElem? (i := 680) (by decide +kernel), by decide +kernel⟩
theorem my_J6_compare_7cf53 : g_my yJ6_compare_7cf53 cJ6_compare_7cf53 2 (some .int) 2 := ⟨List.mem_filter.mpr ⟨List.mem_of_getElem? (i := 1130) (by decide +kernel), by decide +kernel⟩, ni_J6, by decide +kernel, by decide +kernel, by decide +kernel⟩
theorem ms_J6_compare_7cf53 : Cond.static yJ6_compare_7cf53 ∈ g_tb := List.mem_filter.mpr ⟨List.mem_of_getElem? (i := 1129) (by decide +kernel), by decide +kernel⟩
theorem my_J6_bitCount_0f7a4 : g_my yJ6_bitCount_0f7a4 cJ6_bitCount_0f7a4 1 (some .int) 1 := ⟨List.mem_filter.mpr ⟨List.mem_of_getElem? (i := 825) (by decide +kernel), by decide +kernel⟩, ni_J6, by decide +kernel, by decide +kernel, by decide +kernel⟩
theorem ms_J6_bitCount_0f7a4 : Cond.static yJ6_bitCount_0f7a4 ∈ g_tb := List.mem_filter.mpr ⟨List.mem_of_getElem? (i := 824) (by decide +kernel), by decide +kernel⟩
theorem my_J6_signum_0f7a4 : g_my yJ6_signum_0f7a4 cJ6_signum_0f7a4 1 (some .int) 1 := ⟨List.mem_filter.mpr ⟨List.mem_of_getElem? (i := 1981) (by decide +kernel), by decide +kernel⟩, ni_J6, by decide +kernel, by decide +kernel, by decide +kernel⟩
theorem ms_J6_signum_0f7a4 : Cond.static yJ6_signum_0f7a4 ∈ g_tb := List.mem_filter.mpr ⟨List.mem_of_getElem? (i := 1980) (by decide +kernel), by decide +kernel⟩
theorem my_J9_max_7cf53 : g_my yJ9_max_7cf53 cJ9_max_7cf53 2 (some .int) 2 := ⟨List.mem_filter.mpr ⟨List.mem_of_getElem? (i := 627) (by decide +kernel), by decide +kernel⟩, ni_J9, by decide +kernel, by decide +kernel, by decide +kernel⟩
theorem ms_J9_max_7cf53 : Cond.static yJ9_max_7cf53 ∈ g_tb := List.mem_filter.mpr ⟨List.mem_of_getElem? (i := 626) (by decide +kernel), by decide +kernel⟩
theorem my_J9_max_f86c9 : g_my yJ9_max_f86c9 cJ9_max_f86c9 4 (some .long) 2 := ⟨List.mem_filter.mpr ⟨List.mem_of_getElem? (i := 1731) (by decide +kernel), by decide +kernel⟩, ni_J9, by decide +kernel, by decide +kernel, by decide +kernel⟩
theorem ms_J9_max_f86c9 : Cond.static yJ9_max_f86c9 ∈ g_tb := List.mem_filter.mpr ⟨List.mem_of_getElem? (i := 1730) (by decide +kernel), by decide +kernel⟩
theorem my_J9_min_7cf53 : g_my yJ9_min_7cf53 cJ9_min_7cf53 2 (some .int) 2 := ⟨List.mem_filter.mpr ⟨List.mem_of_getElem? (i := 630) (by decide +kernel), by decide +kernel⟩, ni_J9, by decide +kernel, by decide +kernel, by decide +kernel⟩
theorem ms_J9_min_7cf53 : Cond.static yJ9_min_7cf53 ∈ g_tb := List.mem_filter.mpr ⟨List.mem_of_getElem? (i := 629) (by decide +kernel), by decide +kernel⟩
theorem my_J9_min_f86c9 : g_my yJ9_min_f86c9 cJ9_min_f86c9 4 (some .long) 2 := ⟨List.mem_filter.mpr ⟨List.mem_of_getElem? (i := 1728) (by decide +kernel), by decide +kernel⟩, ni_J9, by decide +kernel, by decide +kernel, by decide +kernel⟩
theorem ms_J9_min_f86c9 : Cond.static yJ9_min_f86c9 ∈ g_tb := List.mem_filter.mpr ⟨List.mem_of_getElem? (i := 1727) (by decide +kernel), by decide +kernel⟩
theorem my_J0_length_8abf5 : g_my yJ0_length_8abf5 cJ0_length_8abf5 1 (some .int) 0 := ⟨List.mem_filter.mpr ⟨List.mem_of_getElem? (i := 614) (by decide +kernel), by decide +kernel⟩, ni_J0, by decide +kernel, by decide +kernel, by decide +kernel⟩
theorem mv_J0_length_8abf5 : g_mv yJ0_length_8abf5 := ⟨List.mem_filter.mpr ⟨List.mem_of_getElem? (i := 612) (by decide +kernel), by decide +kernel⟩, List.mem_filter.mpr ⟨List.mem_of_getElem? (i := 613) (by decide +kernel), by decide +kernel⟩⟩
theorem my_J0_charAt_5068e : g_my yJ0_charAt_5068e cJ0_charAt_5068e 2 (some .char) 1 := ⟨List.mem_filter.mpr ⟨List.mem_of_getElem? (i := 1628) (by decide +kernel), by decide +kernel⟩, ni_J0, by decide +kernel, by decide +kernel, by decide +kernel⟩
theorem mv_J0_charAt_5068e : g_mv yJ0_charAt_5068e := ⟨List.mem_filter.mpr ⟨List.mem_of_getElem? (i := 1626) (by decide +kernel), by decide +kernel⟩, List.mem_filter.mpr ⟨List.mem_of_getElem? (i := 1627) (by decide +kernel), by decide +kernel⟩⟩
theorem my_J0_indexOf_0f7a4 : g_my yJ0_indexOf_0f7a4 cJ0_indexOf_0f7a4 2 (some .int) 1 := ⟨List.mem_filter.mpr ⟨List.mem_of_getElem? (i := 600) (by decide +kernel), by decide +kernel⟩, ni_J0, by decide +kernel, by decide +kernel, by decide +kernel⟩
theorem mv_J0_indexOf_0f7a4 : g_mv yJ0_indexOf_0f7a4 := ⟨List.mem_filter.mpr ⟨List.mem_of_getElem? (i := 598) (by decide +kernel), by decide +kernel⟩, List.mem_filter.mpr ⟨List.mem_of_getElem? (i := 599) (by decide +kernel), by decide +kernel⟩⟩
theorem my_J0_indexOf_7cf53 : g_my yJ0_indexOf_7cf53 cJ0_indexOf_7cf53 3 (some .int) 2 := ⟨List.mem_filter.mpr ⟨List.mem_of_getElem? (i := 604) (by decide +kernel), by decide +kernel⟩, ni_J0, by decide +kernel, by decide +kernel, by decide +kernel⟩
theorem mv_J0_indexOf_7cf53 : g_mv yJ0_indexOf_7cf53 := ⟨List.mem_filter.mpr ⟨List.mem_of_getElem? (i := 602) (by decide +kernel), by decide +kernel⟩, List.mem_filter.mpr ⟨List.mem_of_getElem? (i := 603) (by decide +kernel), by decide +kernel⟩⟩
theorem my_J0_coder_7d493 : g_my yJ0_coder_7d493 cJ0_coder_7d493 1 (some .byte) 0 := ⟨List.mem_filter.mpr ⟨List.mem_of_getElem? (i := 618) (by decide +kernel), by decide +kernel⟩, ni_J0, by decide +kernel, by decide +kernel, by decide +kernel⟩
theorem mv_J0_coder_7d493 : g_mv yJ0_coder_7d493 := ⟨List.mem_filter.mpr ⟨List.mem_of_getElem? (i := 616) (by decide +kernel), by decide +kernel⟩, List.mem_filter.mpr ⟨List.mem_of_getElem? (i := 617) (by decide +kernel), by decide +kernel⟩⟩
theorem my_J0_isLatin1_aae02 : g_my yJ0_isLatin1_aae02 cJ0_isLatin1_aae02 1 (some .boolean) 0 := ⟨List.mem_filter.mpr ⟨List.mem_of_getElem? (i := 608) (by decide +kernel), by decide +kernel⟩, ni_J0, by decide +kernel, by decide +kernel, by decide +kernel⟩
theorem mv_J0_isLatin1_aae02 : g_mv yJ0_isLatin1_aae02 := ⟨List.mem_filter.mpr ⟨List.mem_of_getElem? (i := 606) (by decide +kernel), by decide +kernel⟩, List.mem_filter.mpr ⟨List.mem_of_getElem? (i := 607) (by decide +kernel), by decide +kernel⟩⟩
theorem my_J0_checkIndex_df160 : g_my yJ0_checkIndex_df160 cJ0_checkIndex_df160 2 none 2 := ⟨List.mem_filter.mpr ⟨List.mem_of_getElem? (i := 1634) (by decide +kernel), by decide +kernel⟩, ni_J0, by decide +kernel, by decide +kernel, by decide +kernel⟩
theorem ms_J0_checkIndex_df160 : Cond.static yJ0_checkIndex_df160 ∈ g_tb := List.mem_filter.mpr ⟨List.mem_of_getElem? (i := 1633) (by decide +kernel), by decide +kernel⟩
theorem my_J0_checkBoundsBeginEnd_23922 : g_my yJ0_checkBoundsBeginEnd_23922 cJ0_checkBoundsBeginEnd_23922 3 none 3 := ⟨List.mem_filter.mpr ⟨List.mem_of_getElem? (i := 651) (by decide +kernel), by decide +kernel⟩, ni_J0, by decide +kernel, by decide +kernel, by decide +kernel⟩
theorem ms_J0_checkBoundsBeginEnd_23922 : Cond.static yJ0_checkBoundsBeginEnd_23922 ∈ g_tb := List.mem_filter.mpr ⟨List.mem_of_getElem? (i := 650) (by decide +kernel), by decide +kernel⟩
theorem my_J1_charAt_3b067 : g_my yJ1_charAt_3b067 cJ1_charAt_3b067 2 (some .char) 2 := ⟨List.mem_filter.mpr ⟨List.mem_of_getElem? (i := 1631) (by decide +kernel), by decide +kernel⟩, ni_J1, by decide +kernel, by decide +kernel, by decide +kernel⟩
theorem ms_J1_charAt_3b067 : Cond.static yJ1_charAt_3b067 ∈ g_tb := List.mem_filter.mpr ⟨List.mem_of_getElem? (i := 1630) (by decide +kernel), by decide +kernel⟩
theorem my_J1_canEncode_9a6ad : g_my yJ1_canEncode_9a6ad cJ1_canEncode_9a6ad 1 (some .boolean) 1 := ⟨List.mem_filter.mpr ⟨List.mem_of_getElem? (i := 624) (by decide +kernel), by decide +kernel⟩, ni_J1, by decide +kernel, by decide +kernel, by decide +kernel⟩
theorem ms_J1_canEncode_9a6ad : Cond.static yJ1_canEncode_9a6ad ∈ g_tb := List.mem_filter.mpr ⟨List.mem_of_getElem? (i := 623) (by decide +kernel), by decide +kernel⟩
theorem my_J1_indexOf_4cfef : g_my yJ1_indexOf_4cfef cJ1_indexOf_4cfef 4 (some .int) 4 := ⟨List.mem_filter.mpr ⟨List.mem_of_getElem? (i := 621) (by decide +kernel), by decide +kernel⟩, ni_J1, by decide +kernel, by decide +kernel, by decide +kernel⟩
theorem ms_J1_indexOf_4cfef : Cond.static yJ1_indexOf_4cfef ∈ g_tb := List.mem_filter.mpr ⟨List.mem_of_getElem? (i := 620) (by decide +kernel), by decide +kernel⟩
theorem my_J1_indexOfChar_4cfef : g_my yJ1_indexOfChar_4cfef cJ1_indexOfChar_4cfef 6 (some .int) 4 := ⟨List.mem_filter.mpr ⟨List.mem_of_getElem? (i := 633) (by decide +kernel), by decide +kernel⟩, ni_J1, by decide +kernel, by decide +kernel, by decide +kernel⟩
theorem ms_J1_indexOfChar_4cfef : Cond.static yJ1_indexOfChar_4cfef ∈ g_tb := List.mem_filter.mpr ⟨List.mem_of_getElem? (i := 632) (by decide +kernel), by decide +kernel⟩
theorem my_J2_getChar_3b067 : g_my yJ2_getChar_3b067 cJ2_getChar_3b067 2 (some .char) 2 := ⟨List.mem_filter.mpr ⟨List.mem_of_getElem? (i := 662) (by decide +kernel), by decide +kernel⟩, ni_J2, by decide +kernel, by decide +kernel, by decide +kernel⟩
theorem ms_J2_getChar_3b067 : Cond.static yJ2_getChar_3b067 ∈ g_tb := List.mem_filter.mpr ⟨List.mem_of_getElem? (i := 661) (by decide +kernel), by decide +kernel⟩
theorem my_J2_length_9d52b : g_my yJ2_length_9d52b cJ2_length_9d52b 1 (some .int) 1 := ⟨List.mem_filter.mpr ⟨List.mem_of_getElem? (i := 648) (by decide +kernel), by decide +kernel⟩, ni_J2, by decide +kernel, by decide +kernel, by decide +kernel⟩
theorem ms_J2_length_9d52b : Cond.static yJ2_length_9d52b ∈ g_tb := List.mem_filter.mpr ⟨List.mem_of_getElem? (i := 647) (by decide +kernel), by decide +kernel⟩
theorem my_J2_indexOf_4cfef : g_my yJ2_indexOf_4cfef cJ2_indexOf_4cfef 4 (some .int) 4 := ⟨List.mem_filter.mpr ⟨List.mem_of_getElem? (i := 636) (by decide +kernel), by decide +kernel⟩, ni_J2, by decide +kernel, by decide +kernel, by decide +kernel⟩
theorem ms_J2_indexOf_4cfef : Cond.static yJ2_indexOf_4cfef ∈ g_tb := List.mem_filter.mpr ⟨List.mem_of_getElem? (i := 635) (by decide +kernel), by decide +kernel⟩
theorem my_J2_indexOfChar_4cfef : g_my yJ2_indexOfChar_4cfef cJ2_indexOfChar_4cfef 4 (some .int) 4 := ⟨List.mem_filter.mpr ⟨List.mem_of_getElem? (i := 642) (by decide +kernel), by decide +kernel⟩, ni_J2, by decide +kernel, by decide +kernel, by decide +kernel⟩
theorem ms_J2_indexOfChar_4cfef : Cond.static yJ2_indexOfChar_4cfef ∈ g_tb := List.mem_filter.mpr ⟨List.mem_of_getElem? (i := 641) (by decide +kernel), by decide +kernel⟩
theorem my_J2_indexOfCharUnsafe_4cfef : g_my yJ2_indexOfCharUnsafe_4cfef cJ2_indexOfCharUnsafe_4cfef 5 (some .int) 4 := ⟨List.mem_filter.mpr ⟨List.mem_of_getElem? (i := 659) (by decide +kernel), by decide +kernel⟩, ni_J2, by decide +kernel, by decide +kernel, by decide +kernel⟩
theorem ms_J2_indexOfCharUnsafe_4cfef : Cond.static yJ2_indexOfCharUnsafe_4cfef ∈ g_tb := List.mem_filter.mpr ⟨List.mem_of_getElem? (i := 658) (by decide +kernel), by decide +kernel⟩
theorem my_J2_indexOfSupplementary_4cfef : g_my yJ2_indexOfSupplementary_4cfef cJ2_indexOfSupplementary_4cfef 7 (some .int) 4 := ⟨List.mem_filter.mpr ⟨List.mem_of_getElem? (i := 671) (by decide +kernel), by decide +kernel⟩, ni_J2, by decide +kernel, by decide +kernel, by decide +kernel⟩
theorem ms_J2_indexOfSupplementary_4cfef : Cond.static yJ2_indexOfSupplementary_4cfef ∈ g_tb := List.mem_filter.mpr ⟨List.mem_of_getElem? (i := 670) (by decide +kernel), by decide +kernel⟩
theorem my_J2_charAt_3b067 : g_my yJ2_charAt_3b067 cJ2_charAt_3b067 2 (some .char) 2 := ⟨List.mem_filter.mpr ⟨List.mem_of_getElem? (i := 1640) (by decide +kernel), by decide +kernel⟩, ni_J2, by decide +kernel, by decide +kernel, by decide +kernel⟩
theorem ms_J2_charAt_3b067 : Cond.static yJ2_charAt_3b067 ∈ g_tb := List.mem_filter.mpr ⟨List.mem_of_getElem? (i := 1639) (by decide +kernel), by decide +kernel⟩
theorem my_J2_checkIndex_2214a : g_my yJ2_checkIndex_2214a cJ2_checkIndex_2214a 2 none 2 := ⟨List.mem_filter.mpr ⟨List.mem_of_getElem? (i := 1643) (by decide +kernel), by decide +kernel⟩, ni_J2, by decide +kernel, by decide +kernel, by decide +kernel⟩
theorem ms_J2_checkIndex_2214a : Cond.static yJ2_checkIndex_2214a ∈ g_tb := List.mem_filter.mpr ⟨List.mem_of_getElem? (i := 1642) (by decide +kernel), by decide +kernel⟩
theorem my_J2_checkBoundsBeginEnd_d044e : g_my yJ2_checkBoundsBeginEnd_d044e cJ2_checkBoundsBeginEnd_d044e 3 none 3 := ⟨List.mem_filter.mpr ⟨List.mem_of_getElem? (i := 645) (by decide +kernel), by decide +kernel⟩, ni_J2, by decide +kernel, by decide +kernel, by decide +kernel⟩
theorem ms_J2_checkBoundsBeginEnd_d044e : Cond.static yJ2_checkBoundsBeginEnd_d044e ∈ g_tb := List.mem_filter.mpr ⟨List.mem_of_getElem? (i := 644) (by decide +kernel), by decide +kernel⟩
theorem my_J3_checkIndex_8e157 : g_my yJ3_checkIndex_8e157 cJ3_checkIndex_8e157 3 (some .int) 3 := ⟨List.mem_filter.mpr ⟨List.mem_of_getElem? (i := 1637) (by decide +kernel), by decide +kernel⟩, ni_J3, by decide +kernel, by decide +kernel, by decide +kernel⟩
theorem ms_J3_checkIndex_8e157 : Cond.static yJ3_checkIndex_8e157 ∈ g_tb := List.mem_filter.mpr ⟨List.mem_of_getElem? (i := 1636) (by decide +kernel), by decide +kernel⟩
theorem my_J3_checkFromToIndex_8c36e : g_my yJ3_checkFromToIndex_8c36e cJ3_checkFromToIndex_8c36e 4 (some .int) 4 := ⟨List.mem_filter.mpr ⟨List.mem_of_getElem? (i := 656) (by decide +kernel), by decide +kernel⟩, ni_J3, by decide +kernel, by decide +kernel, by decide +kernel⟩
theorem ms_J3_checkFromToIndex_8c36e : Cond.static yJ3_checkFromToIndex_8c36e ∈ g_tb := List.mem_filter.mpr ⟨List.mem_of_getElem? (i := 655) (by decide +kernel), by decide +kernel⟩
theorem lm_L_15 : Cond.methodLink RL 15 yX12_init ∈ g_tb := List.mem_filter.mpr ⟨List.mem_of_getElem? (i := 134) (by decide +kernel), by decide +kernel⟩
theorem lk_X8_9 : g_lkF RX8 9 8 0 2 "[I" := ⟨RX8, "bytes", TX8, 4, rfl, rfl, by decide, rfl, List.mem_filter.mpr ⟨List.mem_of_getElem? (i := 146) (by decide +kernel), by decide +kernel⟩⟩
theorem lk_X12_95 : g_lk RX12 95 8 1 0 "I" := ⟨RX8, "length", TX8, 4, false, rfl, rfl, by decide, rfl, List.mem_filter.mpr ⟨List.mem_of_getElem? (i := 147) (by decide +kernel), by decide +kernel⟩, rfl⟩
theorem lk_X8_15 : g_lk RX8 15 8 1 0 "I" := ⟨RX8, "length", TX8, 4, false, rfl, rfl, by decide, rfl, List.mem_filter.mpr ⟨List.mem_of_getElem? (i := 148) (by decide +kernel), by decide +kernel⟩, rfl⟩
theorem lk_X3_46 : g_lk RX3 46 8 2 0 "I" := ⟨RX8, "at", TX8, 4, false, rfl, rfl, by decide, rfl, List.mem_filter.mpr ⟨List.mem_of_getElem? (i := 149) (by decide +kernel), by decide +kernel⟩, rfl⟩
theorem lk_X5_101 : g_lk RX5 101 8 2 0 "I" := ⟨RX8, "at", TX8, 4, false, rfl, rfl, by decide, rfl, List.mem_filter.mpr ⟨List.mem_of_getElem? (i := 150) (by decide +kernel), by decide +kernel⟩, rfl⟩
theorem lk_X8_19 : g_lk RX8 19 8 2 0 "I" := ⟨RX8, "at", TX8, 4, false, rfl, rfl, by decide, rfl, List.mem_filter.mpr ⟨List.mem_of_getElem? (i := 151) (by decide +kernel), by decide +kernel⟩, rfl⟩
theorem lk_X10_71 : g_lk RX10 71 8 2 0 "I" := ⟨RX8, "at", TX8, 4, false, rfl, rfl, by decide, rfl, List.mem_filter.mpr ⟨List.mem_of_getElem? (i := 152) (by decide +kernel), by decide +kernel⟩, rfl⟩
theorem lk_X8_22 : g_lk RX8 22 8 3 0 "I" := ⟨RX8, "wrong", TX8, 4, false, rfl, rfl, by decide, rfl, List.mem_filter.mpr ⟨List.mem_of_getElem? (i := 153) (by decide +kernel), by decide +kernel⟩, rfl⟩
theorem lk_X5_162 : g_lk RX5 162 8 3 0 "I" := ⟨RX8, "wrong", TX8, 4, false, rfl, rfl, by decide, rfl, List.mem_filter.mpr ⟨List.mem_of_getElem? (i := 154) (by decide +kernel), by decide +kernel⟩, rfl⟩
theorem lk_X5_70 : g_lk RX5 70 4 0 0 "I" := ⟨RX4, "leaves", TX4, 13, false, rfl, rfl, by decide, rfl, List.mem_filter.mpr ⟨List.mem_of_getElem? (i := 174) (by decide +kernel), by decide +kernel⟩, rfl⟩
theorem lk_X4_47 : g_lk RX4 47 4 0 0 "I" := ⟨RX4, "leaves", TX4, 13, false, rfl, rfl, by decide, rfl, List.mem_filter.mpr ⟨List.mem_of_getElem? (i := 175) (by decide +kernel), by decide +kernel⟩, rfl⟩
theorem lk_X11_28 : g_lk RX11 28 4 0 0 "I" := ⟨RX4, "leaves", TX4, 13, false, rfl, rfl, by decide, rfl, List.mem_filter.mpr ⟨List.mem_of_getElem? (i := 176) (by decide +kernel), by decide +kernel⟩, rfl⟩
theorem lk_X2_37 : g_lk RX2 37 4 0 0 "I" := ⟨RX4, "leaves", TX4, 13, false, rfl, rfl, by decide, rfl, List.mem_filter.mpr ⟨List.mem_of_getElem? (i := 177) (by decide +kernel), by decide +kernel⟩, rfl⟩
theorem lk_X1_55 : g_lk RX1 55 4 0 0 "I" := ⟨RX4, "leaves", TX4, 13, false, rfl, rfl, by decide, rfl, List.mem_filter.mpr ⟨List.mem_of_getElem? (i := 178) (by decide +kernel), by decide +kernel⟩, rfl⟩
theorem lk_X7_54 : g_lk RX7 54 4 0 0 "I" := ⟨RX4, "leaves", TX4, 13, false, rfl, rfl, by decide, rfl, List.mem_filter.mpr ⟨List.mem_of_getElem? (i := 179) (by decide +kernel), by decide +kernel⟩, rfl⟩
theorem lk_X12_122 : g_lk RX12 122 4 0 0 "I" := ⟨RX4, "leaves", TX4, 13, false, rfl, rfl, by decide, rfl, List.mem_filter.mpr ⟨List.mem_of_getElem? (i := 180) (by decide +kernel), by decide +kernel⟩, rfl⟩
theorem lk_X5_76 : g_lk RX5 76 4 1 0 "I" := ⟨RX4, "forks", TX4, 13, false, rfl, rfl, by decide, rfl, List.mem_filter.mpr ⟨List.mem_of_getElem? (i := 181) (by decide +kernel), by decide +kernel⟩, rfl⟩
theorem lk_X11_38 : g_lk RX11 38 4 1 0 "I" := ⟨RX4, "forks", TX4, 13, false, rfl, rfl, by decide, rfl, List.mem_filter.mpr ⟨List.mem_of_getElem? (i := 182) (by decide +kernel), by decide +kernel⟩, rfl⟩
theorem lk_X4_51 : g_lk RX4 51 4 1 0 "I" := ⟨RX4, "forks", TX4, 13, false, rfl, rfl, by decide, rfl, List.mem_filter.mpr ⟨List.mem_of_getElem? (i := 183) (by decide +kernel), by decide +kernel⟩, rfl⟩
theorem lk_X0_41 : g_lk RX0 41 4 1 0 "I" := ⟨RX4, "forks", TX4, 13, false, rfl, rfl, by decide, rfl, List.mem_filter.mpr ⟨List.mem_of_getElem? (i := 184) (by decide +kernel), by decide +kernel⟩, rfl⟩
theorem lk_X12_353 : g_lk RX12 353 4 1 0 "I" := ⟨RX4, "forks", TX4, 13, false, rfl, rfl, by decide, rfl, List.mem_filter.mpr ⟨List.mem_of_getElem? (i := 185) (by decide +kernel), by decide +kernel⟩, rfl⟩
theorem lk_X4_11 : g_lkF RX4 11 4 2 2 "[[I" := ⟨RX4, "has", TX4, 13, rfl, rfl, by decide, rfl, List.mem_filter.mpr ⟨List.mem_of_getElem? (i := 186) (by decide +kernel), by decide +kernel⟩⟩
theorem lk_X2_31 : g_lkF RX2 31 4 2 2 "[[I" := ⟨RX4, "has", TX4, 13, rfl, rfl, by decide, rfl, List.mem_filter.mpr ⟨List.mem_of_getElem? (i := 187) (by decide +kernel), by decide +kernel⟩⟩
theorem lk_X5_112 : g_lkF RX5 112 4 2 2 "[[I" := ⟨RX4, "has", TX4, 13, rfl, rfl, by decide, rfl, List.mem_filter.mpr ⟨List.mem_of_getElem? (i := 188) (by decide +kernel), by decide +kernel⟩⟩
theorem lk_X1_72 : g_lkF RX1 72 4 2 2 "[[I" := ⟨RX4, "has", TX4, 13, rfl, rfl, by decide, rfl, List.mem_filter.mpr ⟨List.mem_of_getElem? (i := 189) (by decide +kernel), by decide +kernel⟩⟩
theorem lk_X7_62 : g_lkF RX7 62 4 2 2 "[[I" := ⟨RX4, "has", TX4, 13, rfl, rfl, by decide, rfl, List.mem_filter.mpr ⟨List.mem_of_getElem? (i := 190) (by decide +kernel), by decide +kernel⟩⟩
theorem lk_X12_143 : g_lkF RX12 143 4 2 2 "[[I" := ⟨RX4, "has", TX4, 13, rfl, rfl, by decide, rfl, List.mem_filter.mpr ⟨List.mem_of_getElem? (i := 191) (by decide +kernel), by decide +kernel⟩⟩
theorem lk_X4_16 : g_lkF RX4 16 4 3 2 "[I" := ⟨RX4, "steps", TX4, 13, rfl, rfl, by decide, rfl, List.mem_filter.mpr ⟨List.mem_of_getElem? (i := 192) (by decide +kernel), by decide +kernel⟩⟩
theorem lk_X7_40 : g_lkF RX7 40 4 3 2 "[I" := ⟨RX4, "steps", TX4, 13, rfl, rfl, by decide, rfl, List.mem_filter.mpr ⟨List.mem_of_getElem? (i := 193) (by decide +kernel), by decide +kernel⟩⟩
theorem lk_X5_119 : g_lkF RX5 119 4 3 2 "[I" := ⟨RX4, "steps", TX4, 13, rfl, rfl, by decide, rfl, List.mem_filter.mpr ⟨List.mem_of_getElem? (i := 194) (by decide +kernel), by decide +kernel⟩⟩
theorem lk_X11_88 : g_lkF RX11 88 4 3 2 "[I" := ⟨RX4, "steps", TX4, 13, rfl, rfl, by decide, rfl, List.mem_filter.mpr ⟨List.mem_of_getElem? (i := 195) (by decide +kernel), by decide +kernel⟩⟩
theorem lk_X12_139 : g_lkF RX12 139 4 3 2 "[I" := ⟨RX4, "steps", TX4, 13, rfl, rfl, by decide, rfl, List.mem_filter.mpr ⟨List.mem_of_getElem? (i := 196) (by decide +kernel), by decide +kernel⟩⟩
theorem lk_X2_95 : g_lkF RX2 95 4 3 2 "[I" := ⟨RX4, "steps", TX4, 13, rfl, rfl, by decide, rfl, List.mem_filter.mpr ⟨List.mem_of_getElem? (i := 197) (by decide +kernel), by decide +kernel⟩⟩
theorem lk_X4_20 : g_lkF RX4 20 4 4 2 "[[I" := ⟨RX4, "wayFork", TX4, 13, rfl, rfl, by decide, rfl, List.mem_filter.mpr ⟨List.mem_of_getElem? (i := 198) (by decide +kernel), by decide +kernel⟩⟩
theorem lk_X7_43 : g_lkF RX7 43 4 4 2 "[[I" := ⟨RX4, "wayFork", TX4, 13, rfl, rfl, by decide, rfl, List.mem_filter.mpr ⟨List.mem_of_getElem? (i := 199) (by decide +kernel), by decide +kernel⟩⟩
theorem lk_X5_126 : g_lkF RX5 126 4 4 2 "[[I" := ⟨RX4, "wayFork", TX4, 13, rfl, rfl, by decide, rfl, List.mem_filter.mpr ⟨List.mem_of_getElem? (i := 200) (by decide +kernel), by decide +kernel⟩⟩
theorem lk_X11_76 : g_lkF RX11 76 4 4 2 "[[I" := ⟨RX4, "wayFork", TX4, 13, rfl, rfl, by decide, rfl, List.mem_filter.mpr ⟨List.mem_of_getElem? (i := 201) (by decide +kernel), by decide +kernel⟩⟩
theorem lk_X12_147 : g_lkF RX12 147 4 4 2 "[[I" := ⟨RX4, "wayFork", TX4, 13, rfl, rfl, by decide, rfl, List.mem_filter.mpr ⟨List.mem_of_getElem? (i := 202) (by decide +kernel), by decide +kernel⟩⟩
theorem lk_X2_98 : g_lkF RX2 98 4 4 2 "[[I" := ⟨RX4, "wayFork", TX4, 13, rfl, rfl, by decide, rfl, List.mem_filter.mpr ⟨List.mem_of_getElem? (i := 203) (by decide +kernel), by decide +kernel⟩⟩
theorem lk_X4_23 : g_lkF RX4 23 4 5 2 "[[I" := ⟨RX4, "wayBranch", TX4, 13, rfl, rfl, by decide, rfl, List.mem_filter.mpr ⟨List.mem_of_getElem? (i := 204) (by decide +kernel), by decide +kernel⟩⟩
theorem lk_X7_47 : g_lkF RX7 47 4 5 2 "[[I" := ⟨RX4, "wayBranch", TX4, 13, rfl, rfl, by decide, rfl, List.mem_filter.mpr ⟨List.mem_of_getElem? (i := 205) (by decide +kernel), by decide +kernel⟩⟩
theorem lk_X5_129 : g_lkF RX5 129 4 5 2 "[[I" := ⟨RX4, "wayBranch", TX4, 13, rfl, rfl, by decide, rfl, List.mem_filter.mpr ⟨List.mem_of_getElem? (i := 206) (by decide +kernel), by decide +kernel⟩⟩
theorem lk_X11_80 : g_lkF RX11 80 4 5 2 "[[I" := ⟨RX4, "wayBranch", TX4, 13, rfl, rfl, by decide, rfl, List.mem_filter.mpr ⟨List.mem_of_getElem? (i := 207) (by decide +kernel), by decide +kernel⟩⟩
theorem lk_X12_150 : g_lkF RX12 150 4 5 2 "[[I" := ⟨RX4, "wayBranch", TX4, 13, rfl, rfl, by decide, rfl, List.mem_filter.mpr ⟨List.mem_of_getElem? (i := 208) (by decide +kernel), by decide +kernel⟩⟩
theorem lk_X2_101 : g_lkF RX2 101 4 5 2 "[[I" := ⟨RX4, "wayBranch", TX4, 13, rfl, rfl, by decide, rfl, List.mem_filter.mpr ⟨List.mem_of_getElem? (i := 209) (by decide +kernel), by decide +kernel⟩⟩
theorem lk_X4_26 : g_lkF RX4 26 4 6 2 "[I" := ⟨RX4, "year", TX4, 13, rfl, rfl, by decide, rfl, List.mem_filter.mpr ⟨List.mem_of_getElem? (i := 210) (by decide +kernel), by decide +kernel⟩⟩
theorem lk_X5_139 : g_lkF RX5 139 4 6 2 "[I" := ⟨RX4, "year", TX4, 13, rfl, rfl, by decide, rfl, List.mem_filter.mpr ⟨List.mem_of_getElem? (i := 211) (by decide +kernel), by decide +kernel⟩⟩
theorem lk_X12_156 : g_lkF RX12 156 4 6 2 "[I" := ⟨RX4, "year", TX4, 13, rfl, rfl, by decide, rfl, List.mem_filter.mpr ⟨List.mem_of_getElem? (i := 212) (by decide +kernel), by decide +kernel⟩⟩
theorem lk_X7_96 : g_lkF RX7 96 4 6 2 "[I" := ⟨RX4, "year", TX4, 13, rfl, rfl, by decide, rfl, List.mem_filter.mpr ⟨List.mem_of_getElem? (i := 213) (by decide +kernel), by decide +kernel⟩⟩
theorem lk_X2_108 : g_lkF RX2 108 4 6 2 "[I" := ⟨RX4, "year", TX4, 13, rfl, rfl, by decide, rfl, List.mem_filter.mpr ⟨List.mem_of_getElem? (i := 214) (by decide +kernel), by decide +kernel⟩⟩
theorem lk_X4_29 : g_lkF RX4 29 4 7 2 "[I" := ⟨RX4, "kind", TX4, 13, rfl, rfl, by decide, rfl, List.mem_filter.mpr ⟨List.mem_of_getElem? (i := 215) (by decide +kernel), by decide +kernel⟩⟩
theorem lk_X11_41 : g_lkF RX11 41 4 7 2 "[I" := ⟨RX4, "kind", TX4, 13, rfl, rfl, by decide, rfl, List.mem_filter.mpr ⟨List.mem_of_getElem? (i := 216) (by decide +kernel), by decide +kernel⟩⟩
theorem lk_X0_61 : g_lkF RX0 61 4 7 2 "[I" := ⟨RX4, "kind", TX4, 13, rfl, rfl, by decide, rfl, List.mem_filter.mpr ⟨List.mem_of_getElem? (i := 217) (by decide +kernel), by decide +kernel⟩⟩
theorem lk_X5_142 : g_lkF RX5 142 4 7 2 "[I" := ⟨RX4, "kind", TX4, 13, rfl, rfl, by decide, rfl, List.mem_filter.mpr ⟨List.mem_of_getElem? (i := 218) (by decide +kernel), by decide +kernel⟩⟩
theorem lk_X12_159 : g_lkF RX12 159 4 7 2 "[I" := ⟨RX4, "kind", TX4, 13, rfl, rfl, by decide, rfl, List.mem_filter.mpr ⟨List.mem_of_getElem? (i := 219) (by decide +kernel), by decide +kernel⟩⟩
theorem lk_X7_110 : g_lkF RX7 110 4 7 2 "[I" := ⟨RX4, "kind", TX4, 13, rfl, rfl, by decide, rfl, List.mem_filter.mpr ⟨List.mem_of_getElem? (i := 220) (by decide +kernel), by decide +kernel⟩⟩
theorem lk_X4_32 : g_lkF RX4 32 4 8 2 "[I" := ⟨RX4, "branches", TX4, 13, rfl, rfl, by decide, rfl, List.mem_filter.mpr ⟨List.mem_of_getElem? (i := 221) (by decide +kernel), by decide +kernel⟩⟩
theorem lk_X11_61 : g_lkF RX11 61 4 8 2 "[I" := ⟨RX4, "branches", TX4, 13, rfl, rfl, by decide, rfl, List.mem_filter.mpr ⟨List.mem_of_getElem? (i := 222) (by decide +kernel), by decide +kernel⟩⟩
theorem lk_X5_151 : g_lkF RX5 151 4 8 2 "[I" := ⟨RX4, "branches", TX4, 13, rfl, rfl, by decide, rfl, List.mem_filter.mpr ⟨List.mem_of_getElem? (i := 223) (by decide +kernel), by decide +kernel⟩⟩
theorem lk_X0_91 : g_lkF RX0 91 4 8 2 "[I" := ⟨RX4, "branches", TX4, 13, rfl, rfl, by decide, rfl, List.mem_filter.mpr ⟨List.mem_of_getElem? (i := 224) (by decide +kernel), by decide +kernel⟩⟩
theorem lk_X12_162 : g_lkF RX12 162 4 8 2 "[I" := ⟨RX4, "branches", TX4, 13, rfl, rfl, by decide, rfl, List.mem_filter.mpr ⟨List.mem_of_getElem? (i := 225) (by decide +kernel), by decide +kernel⟩⟩
theorem lk_X7_81 : g_lkF RX7 81 4 8 2 "[I" := ⟨RX4, "branches", TX4, 13, rfl, rfl, by decide, rfl, List.mem_filter.mpr ⟨List.mem_of_getElem? (i := 226) (by decide +kernel), by decide +kernel⟩⟩
theorem lk_X4_35 : g_lkF RX4 35 4 9 2 "[I" := ⟨RX4, "ahead", TX4, 13, rfl, rfl, by decide, rfl, List.mem_filter.mpr ⟨List.mem_of_getElem? (i := 227) (by decide +kernel), by decide +kernel⟩⟩
theorem lk_X5_145 : g_lkF RX5 145 4 9 2 "[I" := ⟨RX4, "ahead", TX4, 13, rfl, rfl, by decide, rfl, List.mem_filter.mpr ⟨List.mem_of_getElem? (i := 228) (by decide +kernel), by decide +kernel⟩⟩
theorem lk_X12_173 : g_lkF RX12 173 4 9 2 "[I" := ⟨RX4, "ahead", TX4, 13, rfl, rfl, by decide, rfl, List.mem_filter.mpr ⟨List.mem_of_getElem? (i := 229) (by decide +kernel), by decide +kernel⟩⟩
theorem lk_X4_38 : g_lkF RX4 38 4 10 2 "[I" := ⟨RX4, "behind", TX4, 13, rfl, rfl, by decide, rfl, List.mem_filter.mpr ⟨List.mem_of_getElem? (i := 230) (by decide +kernel), by decide +kernel⟩⟩
theorem lk_X5_132 : g_lkF RX5 132 4 10 2 "[I" := ⟨RX4, "behind", TX4, 13, rfl, rfl, by decide, rfl, List.mem_filter.mpr ⟨List.mem_of_getElem? (i := 231) (by decide +kernel), by decide +kernel⟩⟩
theorem lk_X12_176 : g_lkF RX12 176 4 10 2 "[I" := ⟨RX4, "behind", TX4, 13, rfl, rfl, by decide, rfl, List.mem_filter.mpr ⟨List.mem_of_getElem? (i := 232) (by decide +kernel), by decide +kernel⟩⟩
theorem lk_X4_41 : g_lkF RX4 41 4 11 2 "[[I" := ⟨RX4, "items", TX4, 13, rfl, rfl, by decide, rfl, List.mem_filter.mpr ⟨List.mem_of_getElem? (i := 233) (by decide +kernel), by decide +kernel⟩⟩
theorem lk_X5_165 : g_lkF RX5 165 4 11 2 "[[I" := ⟨RX4, "items", TX4, 13, rfl, rfl, by decide, rfl, List.mem_filter.mpr ⟨List.mem_of_getElem? (i := 234) (by decide +kernel), by decide +kernel⟩⟩
theorem lk_X4_44 : g_lkF RX4 44 4 12 2 "[I" := ⟨RX4, "targets", TX4, 13, rfl, rfl, by decide, rfl, List.mem_filter.mpr ⟨List.mem_of_getElem? (i := 235) (by decide +kernel), by decide +kernel⟩⟩
theorem lk_X5_174 : g_lkF RX5 174 4 12 2 "[I" := ⟨RX4, "targets", TX4, 13, rfl, rfl, by decide, rfl, List.mem_filter.mpr ⟨List.mem_of_getElem? (i := 236) (by decide +kernel), by decide +kernel⟩⟩
theorem lk_X9_9 : g_lkF RX9 9 9 0 2 "[I" := ⟨RX9, "signs", TX9, 3, rfl, rfl, by decide, rfl, List.mem_filter.mpr ⟨List.mem_of_getElem? (i := 271) (by decide +kernel), by decide +kernel⟩⟩
theorem lk_X9_13 : g_lkF RX9 13 9 1 2 "[I" := ⟨RX9, "waiting", TX9, 3, rfl, rfl, by decide, rfl, List.mem_filter.mpr ⟨List.mem_of_getElem? (i := 272) (by decide +kernel), by decide +kernel⟩⟩
theorem lk_X9_16 : g_lk RX9 16 9 2 0 "I" := ⟨RX9, "length", TX9, 3, false, rfl, rfl, by decide, rfl, List.mem_filter.mpr ⟨List.mem_of_getElem? (i := 273) (by decide +kernel), by decide +kernel⟩, rfl⟩
theorem lk_X10_15 : g_lk RX10 15 9 2 0 "I" := ⟨RX9, "length", TX9, 3, false, rfl, rfl, by decide, rfl, List.mem_filter.mpr ⟨List.mem_of_getElem? (i := 274) (by decide +kernel), by decide +kernel⟩, rfl⟩
theorem lm_X12_32 : Cond.methodLink RX12 32 yX5_init ∈ g_tb := List.mem_filter.mpr ⟨List.mem_of_getElem? (i := 284) (by decide +kernel), by decide +kernel⟩
theorem lm_X5_25 : Cond.methodLink RX5 25 yX3_init ∈ g_tb := List.mem_filter.mpr ⟨List.mem_of_getElem? (i := 297) (by decide +kernel), by decide +kernel⟩
theorem lk_X3_9 : g_lkF RX3 9 3 0 2 "Ljava/lang/String;" := ⟨RX3, "letters", TX3, 5, rfl, rfl, by decide, rfl, List.mem_filter.mpr ⟨List.mem_of_getElem? (i := 301) (by decide +kernel), by decide +kernel⟩⟩
theorem lk_X3_15 : g_lkF RX3 15 3 1 2 "[I" := ⟨RX3, "least", TX3, 5, rfl, rfl, by decide, rfl, List.mem_filter.mpr ⟨List.mem_of_getElem? (i := 302) (by decide +kernel), by decide +kernel⟩⟩
theorem lk_X3_19 : g_lkF RX3 19 3 2 2 "[I" := ⟨RX3, "most", TX3, 5, rfl, rfl, by decide, rfl, List.mem_filter.mpr ⟨List.mem_of_getElem? (i := 303) (by decide +kernel), by decide +kernel⟩⟩
theorem lk_X3_22 : g_lkF RX3 22 3 3 2 "[I" := ⟨RX3, "usual", TX3, 5, rfl, rfl, by decide, rfl, List.mem_filter.mpr ⟨List.mem_of_getElem? (i := 304) (by decide +kernel), by decide +kernel⟩⟩
theorem lk_X3_25 : g_lkF RX3 25 3 4 2 "[I" := ⟨RX3, "told", TX3, 5, rfl, rfl, by decide, rfl, List.mem_filter.mpr ⟨List.mem_of_getElem? (i := 305) (by decide +kernel), by decide +kernel⟩⟩
theorem lk_X5_116 : g_lkF RX5 116 3 4 2 "[I" := ⟨RX3, "told", TX3, 5, rfl, rfl, by decide, rfl, List.mem_filter.mpr ⟨List.mem_of_getElem? (i := 306) (by decide +kernel), by decide +kernel⟩⟩
theorem lk_X5_66 : g_lkF RX5 66 5 0 2 "LOtherSelves$Tape;" := ⟨RX5, "tape", TX5, 6, rfl, rfl, by decide, rfl, List.mem_filter.mpr ⟨List.mem_of_getElem? (i := 333) (by decide +kernel), by decide +kernel⟩⟩
theorem lk_X5_28 : g_lkF RX5 28 5 1 2 "LOtherSelves$Items;" := ⟨RX5, "leafItems", TX5, 6, rfl, rfl, by decide, rfl, List.mem_filter.mpr ⟨List.mem_of_getElem? (i := 334) (by decide +kernel), by decide +kernel⟩⟩
theorem lk_X5_43 : g_lkF RX5 43 5 2 2 "LOtherSelves$Items;" := ⟨RX5, "forkItems", TX5, 6, rfl, rfl, by decide, rfl, List.mem_filter.mpr ⟨List.mem_of_getElem? (i := 335) (by decide +kernel), by decide +kernel⟩⟩
theorem lk_X5_57 : g_lkF RX5 57 5 3 2 "LOtherSelves$Items;" := ⟨RX5, "branchItems", TX5, 6, rfl, rfl, by decide, rfl, List.mem_filter.mpr ⟨List.mem_of_getElem? (i := 336) (by decide +kernel), by decide +kernel⟩⟩
theorem lk_X5_60 : g_lkF RX5 60 5 4 2 "[I" := ⟨RX5, "pathFork", TX5, 6, rfl, rfl, by decide, rfl, List.mem_filter.mpr ⟨List.mem_of_getElem? (i := 337) (by decide +kernel), by decide +kernel⟩⟩
theorem lk_X5_63 : g_lkF RX5 63 5 5 2 "[I" := ⟨RX5, "pathBranch", TX5, 6, rfl, rfl, by decide, rfl, List.mem_filter.mpr ⟨List.mem_of_getElem? (i := 338) (by decide +kernel), by decide +kernel⟩⟩
theorem lm_X12_41 : Cond.methodLink RX12 41 yX10_init ∈ g_tb := List.mem_filter.mpr ⟨List.mem_of_getElem? (i := 354) (by decide +kernel), by decide +kernel⟩
theorem lk_X10_9 : g_lkF RX10 9 10 0 2 "LOtherSelves$Tape;" := ⟨RX10, "tape", TX10, 1, rfl, rfl, by decide, rfl, List.mem_filter.mpr ⟨List.mem_of_getElem? (i := 358) (by decide +kernel), by decide +kernel⟩⟩
theorem lm_X12_48 : Cond.methodLink RX12 48 yX7_init ∈ g_tb := List.mem_filter.mpr ⟨List.mem_of_getElem? (i := 364) (by decide +kernel), by decide +kernel⟩
theorem lm_X7_11 : Cond.methodLink RX7 11 yX6_init ∈ g_tb := List.mem_filter.mpr ⟨List.mem_of_getElem? (i := 370) (by decide +kernel), by decide +kernel⟩
theorem lk_X6_9 : g_lkF RX6 9 6 0 2 "[I" := ⟨RX6, "now", TX6, 6, rfl, rfl, by decide, rfl, List.mem_filter.mpr ⟨List.mem_of_getElem? (i := 374) (by decide +kernel), by decide +kernel⟩⟩
theorem lk_X7_33 : g_lkF RX7 33 6 0 2 "[I" := ⟨RX6, "now", TX6, 6, rfl, rfl, by decide, rfl, List.mem_filter.mpr ⟨List.mem_of_getElem? (i := 375) (by decide +kernel), by decide +kernel⟩⟩
theorem lk_X0_78 : g_lkF RX0 78 6 0 2 "[I" := ⟨RX6, "now", TX6, 6, rfl, rfl, by decide, rfl, List.mem_filter.mpr ⟨List.mem_of_getElem? (i := 376) (by decide +kernel), by decide +kernel⟩⟩
theorem lk_X12_212 : g_lkF RX12 212 6 0 2 "[I" := ⟨RX6, "now", TX6, 6, rfl, rfl, by decide, rfl, List.mem_filter.mpr ⟨List.mem_of_getElem? (i := 377) (by decide +kernel), by decide +kernel⟩⟩
theorem lk_X6_15 : g_lkF RX6 15 6 1 2 "[I" := ⟨RX6, "kept", TX6, 6, rfl, rfl, by decide, rfl, List.mem_filter.mpr ⟨List.mem_of_getElem? (i := 378) (by decide +kernel), by decide +kernel⟩⟩
theorem lk_X6_18 : g_lkF RX6 18 6 2 2 "[I" := ⟨RX6, "actPlace", TX6, 6, rfl, rfl, by decide, rfl, List.mem_filter.mpr ⟨List.mem_of_getElem? (i := 379) (by decide +kernel), by decide +kernel⟩⟩
theorem lk_X6_21 : g_lkF RX6 21 6 3 2 "[I" := ⟨RX6, "actOld", TX6, 6, rfl, rfl, by decide, rfl, List.mem_filter.mpr ⟨List.mem_of_getElem? (i := 380) (by decide +kernel), by decide +kernel⟩⟩
theorem lk_X6_34 : g_lk RX6 34 6 4 0 "Z" := ⟨RX6, "hasImage", TX6, 6, false, rfl, rfl, by decide, rfl, List.mem_filter.mpr ⟨List.mem_of_getElem? (i := 381) (by decide +kernel), by decide +kernel⟩, rfl⟩
theorem lk_X12_346 : g_lk RX12 346 6 4 0 "Z" := ⟨RX6, "hasImage", TX6, 6, false, rfl, rfl, by decide, rfl, List.mem_filter.mpr ⟨List.mem_of_getElem? (i := 382) (by decide +kernel), by decide +kernel⟩, rfl⟩
theorem lk_X6_24 : g_lk RX6 24 6 5 0 "I" := ⟨RX6, "acts", TX6, 6, false, rfl, rfl, by decide, rfl, List.mem_filter.mpr ⟨List.mem_of_getElem? (i := 383) (by decide +kernel), by decide +kernel⟩, rfl⟩
theorem lk_X12_359 : g_lk RX12 359 6 5 0 "I" := ⟨RX6, "acts", TX6, 6, false, rfl, rfl, by decide, rfl, List.mem_filter.mpr ⟨List.mem_of_getElem? (i := 384) (by decide +kernel), by decide +kernel⟩, rfl⟩
theorem lk_X7_29 : g_lkF RX7 29 7 0 2 "[LOtherSelves$Taste;" := ⟨RX7, "tastes", TX7, 4, rfl, rfl, by decide, rfl, List.mem_filter.mpr ⟨List.mem_of_getElem? (i := 400) (by decide +kernel), by decide +kernel⟩⟩
theorem lk_X7_12 : g_lkF RX7 12 7 1 2 "LOtherSelves$State;" := ⟨RX7, "state", TX7, 4, rfl, rfl, by decide, rfl, List.mem_filter.mpr ⟨List.mem_of_getElem? (i := 401) (by decide +kernel), by decide +kernel⟩⟩
theorem lk_X0_74 : g_lkF RX0 74 7 1 2 "LOtherSelves$State;" := ⟨RX7, "state", TX7, 4, rfl, rfl, by decide, rfl, List.mem_filter.mpr ⟨List.mem_of_getElem? (i := 402) (by decide +kernel), by decide +kernel⟩⟩
theorem lk_X12_200 : g_lkF RX12 200 7 1 2 "LOtherSelves$State;" := ⟨RX7, "state", TX7, 4, rfl, rfl, by decide, rfl, List.mem_filter.mpr ⟨List.mem_of_getElem? (i := 403) (by decide +kernel), by decide +kernel⟩⟩
theorem lk_X7_18 : g_lkF RX7 18 7 2 2 "[I" := ⟨RX7, "letters", TX7, 4, rfl, rfl, by decide, rfl, List.mem_filter.mpr ⟨List.mem_of_getElem? (i := 404) (by decide +kernel), by decide +kernel⟩⟩
theorem lk_X7_25 : g_lk RX7 25 7 3 2 "LOtherSelves$Life;" := ⟨RX7, "life", TX7, 4, false, rfl, rfl, by decide, rfl, List.mem_filter.mpr ⟨List.mem_of_getElem? (i := 405) (by decide +kernel), by decide +kernel⟩, rfl⟩
theorem lk_X11_22 : g_lk RX11 22 7 3 2 "LOtherSelves$Life;" := ⟨RX7, "life", TX7, 4, false, rfl, rfl, by decide, rfl, List.mem_filter.mpr ⟨List.mem_of_getElem? (i := 406) (by decide +kernel), by decide +kernel⟩, rfl⟩
theorem lk_X2_25 : g_lk RX2 25 7 3 2 "LOtherSelves$Life;" := ⟨RX7, "life", TX7, 4, false, rfl, rfl, by decide, rfl, List.mem_filter.mpr ⟨List.mem_of_getElem? (i := 407) (by decide +kernel), by decide +kernel⟩, rfl⟩
theorem lk_X1_51 : g_lk RX1 51 7 3 2 "LOtherSelves$Life;" := ⟨RX7, "life", TX7, 4, false, rfl, rfl, by decide, rfl, List.mem_filter.mpr ⟨List.mem_of_getElem? (i := 408) (by decide +kernel), by decide +kernel⟩, rfl⟩
theorem lk_X0_35 : g_lk RX0 35 7 3 2 "LOtherSelves$Life;" := ⟨RX7, "life", TX7, 4, false, rfl, rfl, by decide, rfl, List.mem_filter.mpr ⟨List.mem_of_getElem? (i := 409) (by decide +kernel), by decide +kernel⟩, rfl⟩
theorem lk_X12_118 : g_lk RX12 118 7 3 2 "LOtherSelves$Life;" := ⟨RX7, "life", TX7, 4, false, rfl, rfl, by decide, rfl, List.mem_filter.mpr ⟨List.mem_of_getElem? (i := 410) (by decide +kernel), by decide +kernel⟩, rfl⟩
theorem lm_X12_57 : Cond.methodLink RX12 57 yX11_init ∈ g_tb := List.mem_filter.mpr ⟨List.mem_of_getElem? (i := 422) (by decide +kernel), by decide +kernel⟩
theorem lk_X11_18 : g_lkF RX11 18 11 0 2 "LOtherSelves$Table;" := ⟨RX11, "table", TX11, 3, rfl, rfl, by decide, rfl, List.mem_filter.mpr ⟨List.mem_of_getElem? (i := 426) (by decide +kernel), by decide +kernel⟩⟩
theorem lk_X11_9 : g_lkF RX11 9 11 1 2 "[I" := ⟨RX11, "ofLeaf", TX11, 3, rfl, rfl, by decide, rfl, List.mem_filter.mpr ⟨List.mem_of_getElem? (i := 427) (by decide +kernel), by decide +kernel⟩⟩
theorem lk_X11_15 : g_lkF RX11 15 11 2 2 "[I" := ⟨RX11, "ofFork", TX11, 3, rfl, rfl, by decide, rfl, List.mem_filter.mpr ⟨List.mem_of_getElem? (i := 428) (by decide +kernel), by decide +kernel⟩⟩
theorem lk_X12_233 : g_lkF RX12 233 11 2 2 "[I" := ⟨RX11, "ofFork", TX11, 3, rfl, rfl, by decide, rfl, List.mem_filter.mpr ⟨List.mem_of_getElem? (i := 429) (by decide +kernel), by decide +kernel⟩⟩
theorem lm_X12_66 : Cond.methodLink RX12 66 yX1_init ∈ g_tb := List.mem_filter.mpr ⟨List.mem_of_getElem? (i := 439) (by decide +kernel), by decide +kernel⟩
theorem lk_X1_26 : g_lkF RX1 26 1 0 2 "LOtherSelves$Table;" := ⟨RX1, "table", TX1, 7, rfl, rfl, by decide, rfl, List.mem_filter.mpr ⟨List.mem_of_getElem? (i := 444) (by decide +kernel), by decide +kernel⟩⟩
theorem lk_X1_30 : g_lkF RX1 30 1 1 2 "LOtherSelves$Values;" := ⟨RX1, "values", TX1, 7, rfl, rfl, by decide, rfl, List.mem_filter.mpr ⟨List.mem_of_getElem? (i := 445) (by decide +kernel), by decide +kernel⟩⟩
theorem lk_X1_9 : g_lkF RX1 9 1 2 2 "[I" := ⟨RX1, "weights", TX1, 7, rfl, rfl, by decide, rfl, List.mem_filter.mpr ⟨List.mem_of_getElem? (i := 446) (by decide +kernel), by decide +kernel⟩⟩
theorem lk_X1_15 : g_lkF RX1 15 1 3 2 "[I" := ⟨RX1, "asked", TX1, 7, rfl, rfl, by decide, rfl, List.mem_filter.mpr ⟨List.mem_of_getElem? (i := 447) (by decide +kernel), by decide +kernel⟩⟩
theorem lk_X1_18 : g_lkF RX1 18 1 4 2 "[I" := ⟨RX1, "votes", TX1, 7, rfl, rfl, by decide, rfl, List.mem_filter.mpr ⟨List.mem_of_getElem? (i := 448) (by decide +kernel), by decide +kernel⟩⟩
theorem lk_X1_23 : g_lkF RX1 23 1 5 2 "[[I" := ⟨RX1, "worths", TX1, 7, rfl, rfl, by decide, rfl, List.mem_filter.mpr ⟨List.mem_of_getElem? (i := 449) (by decide +kernel), by decide +kernel⟩⟩
theorem lk_X1_90 : g_lk RX1 90 1 6 0 "I" := ⟨RX1, "voters", TX1, 7, false, rfl, rfl, by decide, rfl, List.mem_filter.mpr ⟨List.mem_of_getElem? (i := 450) (by decide +kernel), by decide +kernel⟩, rfl⟩
theorem lm_X12_75 : Cond.methodLink RX12 75 yX2_init ∈ g_tb := List.mem_filter.mpr ⟨List.mem_of_getElem? (i := 468) (by decide +kernel), by decide +kernel⟩
theorem lk_X2_21 : g_lkF RX2 21 2 0 2 "LOtherSelves$Table;" := ⟨RX2, "table", TX2, 5, rfl, rfl, by decide, rfl, List.mem_filter.mpr ⟨List.mem_of_getElem? (i := 472) (by decide +kernel), by decide +kernel⟩⟩
theorem lk_X2_9 : g_lkF RX2 9 2 1 2 "[I" := ⟨RX2, "clueKind", TX2, 5, rfl, rfl, by decide, rfl, List.mem_filter.mpr ⟨List.mem_of_getElem? (i := 473) (by decide +kernel), by decide +kernel⟩⟩
theorem lk_X2_15 : g_lkF RX2 15 2 2 2 "[I" := ⟨RX2, "clueU", TX2, 5, rfl, rfl, by decide, rfl, List.mem_filter.mpr ⟨List.mem_of_getElem? (i := 474) (by decide +kernel), by decide +kernel⟩⟩
theorem lk_X2_18 : g_lkF RX2 18 2 3 2 "[I" := ⟨RX2, "clueV", TX2, 5, rfl, rfl, by decide, rfl, List.mem_filter.mpr ⟨List.mem_of_getElem? (i := 475) (by decide +kernel), by decide +kernel⟩⟩
theorem lk_X2_69 : g_lk RX2 69 2 4 0 "I" := ⟨RX2, "clues", TX2, 5, false, rfl, rfl, by decide, rfl, List.mem_filter.mpr ⟨List.mem_of_getElem? (i := 476) (by decide +kernel), by decide +kernel⟩, rfl⟩
theorem lk_X12_356 : g_lk RX12 356 2 4 0 "I" := ⟨RX2, "clues", TX2, 5, false, rfl, rfl, by decide, rfl, List.mem_filter.mpr ⟨List.mem_of_getElem? (i := 477) (by decide +kernel), by decide +kernel⟩, rfl⟩
theorem lm_X12_82 : Cond.methodLink RX12 82 yX0_init ∈ g_tb := List.mem_filter.mpr ⟨List.mem_of_getElem? (i := 491) (by decide +kernel), by decide +kernel⟩
theorem lk_X0_15 : g_lkF RX0 15 0 0 2 "LOtherSelves$Table;" := ⟨RX0, "table", TX0, 4, rfl, rfl, by decide, rfl, List.mem_filter.mpr ⟨List.mem_of_getElem? (i := 495) (by decide +kernel), by decide +kernel⟩⟩
theorem lk_X0_9 : g_lkF RX0 9 0 1 2 "[I" := ⟨RX0, "selves", TX0, 4, rfl, rfl, by decide, rfl, List.mem_filter.mpr ⟨List.mem_of_getElem? (i := 496) (by decide +kernel), by decide +kernel⟩⟩
theorem lk_X12_333 : g_lkF RX12 333 0 1 2 "[I" := ⟨RX0, "selves", TX0, 4, rfl, rfl, by decide, rfl, List.mem_filter.mpr ⟨List.mem_of_getElem? (i := 497) (by decide +kernel), by decide +kernel⟩⟩
theorem lk_X0_19 : g_lk RX0 19 0 2 0 "I" := ⟨RX0, "kept", TX0, 4, false, rfl, rfl, by decide, rfl, List.mem_filter.mpr ⟨List.mem_of_getElem? (i := 498) (by decide +kernel), by decide +kernel⟩, rfl⟩
theorem lk_X12_330 : g_lk RX12 330 0 2 0 "I" := ⟨RX0, "kept", TX0, 4, false, rfl, rfl, by decide, rfl, List.mem_filter.mpr ⟨List.mem_of_getElem? (i := 499) (by decide +kernel), by decide +kernel⟩, rfl⟩
theorem lk_X0_23 : g_lk RX0 23 0 3 1 "J" := ⟨RX0, "x", TX0, 4, false, rfl, rfl, by decide, rfl, List.mem_filter.mpr ⟨List.mem_of_getElem? (i := 500) (by decide +kernel), by decide +kernel⟩, rfl⟩
theorem lk_X12_10 : g_lkF RX12 10 12 0 2 "LOtherSelves$Tape;" := ⟨RX12, "tape", TX12, 13, rfl, rfl, by decide, rfl, List.mem_filter.mpr ⟨List.mem_of_getElem? (i := 510) (by decide +kernel), by decide +kernel⟩⟩
theorem lk_X12_18 : g_lkF RX12 18 12 1 2 "[LOtherSelves$Life;" := ⟨RX12, "lives", TX12, 13, rfl, rfl, by decide, rfl, List.mem_filter.mpr ⟨List.mem_of_getElem? (i := 511) (by decide +kernel), by decide +kernel⟩⟩
theorem lk_X12_25 : g_lkF RX12 25 12 2 2 "[LOtherSelves$Taste;" := ⟨RX12, "tastes", TX12, 13, rfl, rfl, by decide, rfl, List.mem_filter.mpr ⟨List.mem_of_getElem? (i := 512) (by decide +kernel), by decide +kernel⟩⟩
theorem lk_X12_35 : g_lkF RX12 35 12 3 2 "LOtherSelves$LifeReader;" := ⟨RX12, "lifeReader", TX12, 13, rfl, rfl, by decide, rfl, List.mem_filter.mpr ⟨List.mem_of_getElem? (i := 513) (by decide +kernel), by decide +kernel⟩⟩
theorem lk_X12_42 : g_lkF RX12 42 12 4 2 "LOtherSelves$TasteReader;" := ⟨RX12, "tasteReader", TX12, 13, rfl, rfl, by decide, rfl, List.mem_filter.mpr ⟨List.mem_of_getElem? (i := 514) (by decide +kernel), by decide +kernel⟩⟩
theorem lk_X12_51 : g_lkF RX12 51 12 5 2 "LOtherSelves$Table;" := ⟨RX12, "table", TX12, 13, rfl, rfl, by decide, rfl, List.mem_filter.mpr ⟨List.mem_of_getElem? (i := 515) (by decide +kernel), by decide +kernel⟩⟩
theorem lk_X12_60 : g_lkF RX12 60 12 6 2 "LOtherSelves$Values;" := ⟨RX12, "values", TX12, 13, rfl, rfl, by decide, rfl, List.mem_filter.mpr ⟨List.mem_of_getElem? (i := 516) (by decide +kernel), by decide +kernel⟩⟩
theorem lk_X12_69 : g_lkF RX12 69 12 7 2 "LOtherSelves$Council;" := ⟨RX12, "council", TX12, 13, rfl, rfl, by decide, rfl, List.mem_filter.mpr ⟨List.mem_of_getElem? (i := 517) (by decide +kernel), by decide +kernel⟩⟩
theorem lk_X12_76 : g_lkF RX12 76 12 8 2 "LOtherSelves$Facts;" := ⟨RX12, "facts", TX12, 13, rfl, rfl, by decide, rfl, List.mem_filter.mpr ⟨List.mem_of_getElem? (i := 518) (by decide +kernel), by decide +kernel⟩⟩
theorem lk_X12_83 : g_lkF RX12 83 12 9 2 "LOtherSelves$Births;" := ⟨RX12, "births", TX12, 13, rfl, rfl, by decide, rfl, List.mem_filter.mpr ⟨List.mem_of_getElem? (i := 519) (by decide +kernel), by decide +kernel⟩⟩
theorem lk_X12_102 : g_lk RX12 102 12 10 0 "I" := ⟨RX12, "lifeCount", TX12, 13, false, rfl, rfl, by decide, rfl, List.mem_filter.mpr ⟨List.mem_of_getElem? (i := 520) (by decide +kernel), by decide +kernel⟩, rfl⟩
theorem lk_X12_109 : g_lk RX12 109 12 11 0 "I" := ⟨RX12, "tasteCount", TX12, 13, false, rfl, rfl, by decide, rfl, List.mem_filter.mpr ⟨List.mem_of_getElem? (i := 521) (by decide +kernel), by decide +kernel⟩, rfl⟩
theorem lk_X12_87 : g_lk RX12 87 12 12 0 "I" := ⟨RX12, "atTable", TX12, 13, false, rfl, rfl, by decide, rfl, List.mem_filter.mpr ⟨List.mem_of_getElem? (i := 522) (by decide +kernel), by decide +kernel⟩, rfl⟩
theorem lm_L_19 : Cond.methodLink RL 19 yX12_feed ∈ g_tb := List.mem_filter.mpr ⟨List.mem_of_getElem? (i := 550) (by decide +kernel), by decide +kernel⟩
theorem lm_X12_91 : Cond.methodLink RX12 91 yX8_bytesIn ∈ g_tb := List.mem_filter.mpr ⟨List.mem_of_getElem? (i := 554) (by decide +kernel), by decide +kernel⟩
theorem lm_X12_98 : Cond.methodLink RX12 98 yX8_append ∈ g_tb := List.mem_filter.mpr ⟨List.mem_of_getElem? (i := 557) (by decide +kernel), by decide +kernel⟩
theorem lm_L_24 : Cond.methodLink RL 24 yX12_end ∈ g_tb := List.mem_filter.mpr ⟨List.mem_of_getElem? (i := 561) (by decide +kernel), by decide +kernel⟩
theorem lm_L_29 : Cond.methodLink RL 29 yX12_fault ∈ g_tb := List.mem_filter.mpr ⟨List.mem_of_getElem? (i := 565) (by decide +kernel), by decide +kernel⟩
theorem lm_X12_105 : Cond.methodLink RX12 105 yX5_read ∈ g_tb := List.mem_filter.mpr ⟨List.mem_of_getElem? (i := 569) (by decide +kernel), by decide +kernel⟩
theorem lm_X5_79 : Cond.methodLink RX5 79 yX8_begin ∈ g_tb := List.mem_filter.mpr ⟨List.mem_of_getElem? (i := 573) (by decide +kernel), by decide +kernel⟩
theorem lm_X5_84 : Cond.methodLink RX5 84 yX5_readNode ∈ g_tb := List.mem_filter.mpr ⟨List.mem_of_getElem? (i := 577) (by decide +kernel), by decide +kernel⟩
theorem lm_X5_92 : Cond.methodLink RX5 92 yX8_sign ∈ g_tb := List.mem_filter.mpr ⟨List.mem_of_getElem? (i := 581) (by decide +kernel), by decide +kernel⟩
theorem lm_X5_95 : Cond.methodLink RX5 95 yX5_readLeaf ∈ g_tb := List.mem_filter.mpr ⟨List.mem_of_getElem? (i := 585) (by decide +kernel), by decide +kernel⟩
theorem lm_X5_108 : Cond.methodLink RX5 108 yX3_read ∈ g_tb := List.mem_filter.mpr ⟨List.mem_of_getElem? (i := 589) (by decide +kernel), by decide +kernel⟩
theorem lm_X3_34 : Cond.methodLink RX3 34 yX8_sign ∈ g_tb := List.mem_filter.mpr ⟨List.mem_of_getElem? (i := 596) (by decide +kernel), by decide +kernel⟩
theorem lm_X3_40 : Cond.methodLink RX3 40 yJ0_indexOf_0f7a4 ∈ g_tb := List.mem_filter.mpr ⟨List.mem_of_getElem? (i := 597) (by decide +kernel), by decide +kernel⟩
theorem lm_J0_633 : Cond.methodLink RJ0 633 yJ0_indexOf_7cf53 ∈ g_tb := List.mem_filter.mpr ⟨List.mem_of_getElem? (i := 601) (by decide +kernel), by decide +kernel⟩
theorem lm_J0_492 : Cond.methodLink RJ0 492 yJ0_isLatin1_aae02 ∈ g_tb := List.mem_filter.mpr ⟨List.mem_of_getElem? (i := 605) (by decide +kernel), by decide +kernel⟩
theorem lm_J0_505 : Cond.methodLink RJ0 505 yJ0_length_8abf5 ∈ g_tb := List.mem_filter.mpr ⟨List.mem_of_getElem? (i := 611) (by decide +kernel), by decide +kernel⟩
theorem lm_J0_335 : Cond.methodLink RJ0 335 yJ0_coder_7d493 ∈ g_tb := List.mem_filter.mpr ⟨List.mem_of_getElem? (i := 615) (by decide +kernel), by decide +kernel⟩
theorem lm_J0_637 : Cond.methodLink RJ0 637 yJ1_indexOf_4cfef ∈ g_tb := List.mem_filter.mpr ⟨List.mem_of_getElem? (i := 619) (by decide +kernel), by decide +kernel⟩
theorem lm_J1_88 : Cond.methodLink RJ1 88 yJ1_canEncode_9a6ad ∈ g_tb := List.mem_filter.mpr ⟨List.mem_of_getElem? (i := 622) (by decide +kernel), by decide +kernel⟩
theorem lm_J1_92 : Cond.methodLink RJ1 92 yJ9_max_7cf53 ∈ g_tb := List.mem_filter.mpr ⟨List.mem_of_getElem? (i := 625) (by decide +kernel), by decide +kernel⟩
theorem lm_J1_38 : Cond.methodLink RJ1 38 yJ9_min_7cf53 ∈ g_tb := List.mem_filter.mpr ⟨List.mem_of_getElem? (i := 628) (by decide +kernel), by decide +kernel⟩
theorem lm_J1_95 : Cond.methodLink RJ1 95 yJ1_indexOfChar_4cfef ∈ g_tb := List.mem_filter.mpr ⟨List.mem_of_getElem? (i := 631) (by decide +kernel), by decide +kernel⟩
theorem lm_J0_640 : Cond.methodLink RJ0 640 yJ2_indexOf_4cfef ∈ g_tb := List.mem_filter.mpr ⟨List.mem_of_getElem? (i := 634) (by decide +kernel), by decide +kernel⟩
theorem lm_J2_224 : Cond.methodLink RJ2 224 yJ9_max_7cf53 ∈ g_tb := List.mem_filter.mpr ⟨List.mem_of_getElem? (i := 637) (by decide +kernel), by decide +kernel⟩
theorem lm_J2_183 : Cond.methodLink RJ2 183 yJ9_min_7cf53 ∈ g_tb := List.mem_filter.mpr ⟨List.mem_of_getElem? (i := 638) (by decide +kernel), by decide +kernel⟩
theorem lc_J2_227 : Cond.constant RJ2 227 (65536) ∈ g_tb := List.mem_filter.mpr ⟨List.mem_of_getElem? (i := 639) (by decide +kernel), by decide +kernel⟩
theorem lm_J2_228 : Cond.methodLink RJ2 228 yJ2_indexOfChar_4cfef ∈ g_tb := List.mem_filter.mpr ⟨List.mem_of_getElem? (i := 640) (by decide +kernel), by decide +kernel⟩
theorem lm_J2_96 : Cond.methodLink RJ2 96 yJ2_checkBoundsBeginEnd_d044e ∈ g_tb := List.mem_filter.mpr ⟨List.mem_of_getElem? (i := 643) (by decide +kernel), by decide +kernel⟩
theorem lm_J2_48 : Cond.methodLink RJ2 48 yJ2_length_9d52b ∈ g_tb := List.mem_filter.mpr ⟨List.mem_of_getElem? (i := 646) (by decide +kernel), by decide +kernel⟩
theorem lm_J2_241 : Cond.methodLink RJ2 241 yJ0_checkBoundsBeginEnd_23922 ∈ g_tb := List.mem_filter.mpr ⟨List.mem_of_getElem? (i := 649) (by decide +kernel), by decide +kernel⟩
theorem lm_J0_1062 : Cond.methodLink RJ0 1062 yJ3_checkFromToIndex_8c36e ∈ g_tb := List.mem_filter.mpr ⟨List.mem_of_getElem? (i := 654) (by decide +kernel), by decide +kernel⟩
theorem lm_J2_244 : Cond.methodLink RJ2 244 yJ2_indexOfCharUnsafe_4cfef ∈ g_tb := List.mem_filter.mpr ⟨List.mem_of_getElem? (i := 657) (by decide +kernel), by decide +kernel⟩
theorem lm_J2_71 : Cond.methodLink RJ2 71 yJ2_getChar_3b067 ∈ g_tb := List.mem_filter.mpr ⟨List.mem_of_getElem? (i := 660) (by decide +kernel), by decide +kernel⟩
theorem lm_J2_232 : Cond.methodLink RJ2 232 yJ2_indexOfSupplementary_4cfef ∈ g_tb := List.mem_filter.mpr ⟨List.mem_of_getElem? (i := 669) (by decide +kernel), by decide +kernel⟩
theorem lm_J2_164 : Cond.methodLink RJ2 164 yJ11_isValidCodePoint_9a6ad ∈ g_tb := List.mem_filter.mpr ⟨List.mem_of_getElem? (i := 672) (by decide +kernel), by decide +kernel⟩
theorem lm_J2_157 : Cond.methodLink RJ2 157 yJ11_highSurrogate_5068e ∈ g_tb := List.mem_filter.mpr ⟨List.mem_of_getElem? (i := 675) (by decide +kernel), by decide +kernel⟩
theorem lc_J11_110 : Cond.constant RJ11 110 (55232) ∈ g_tb := List.mem_filter.mpr ⟨List.mem_of_getElem? (i := 678) (by decide +kernel), by decide +kernel⟩
theorem lm_J2_161 : Cond.methodLink RJ2 161 yJ11_lowSurrogate_5068e ∈ g_tb := List.mem_filter.mpr ⟨List.mem_of_getElem? (i := 679) (by decide +kernel), by decide +kernel⟩
theorem lc_J11_76 : Cond.constant RJ11 76 (56320) ∈ g_tb := List.mem_filter.mpr ⟨List.mem_of_getElem? (i := 682) (by decide +kernel), by decide +kernel⟩
theorem lm_X3_50 : Cond.methodLink RX3 50 yX8_failAt ∈ g_tb := List.mem_filter.mpr ⟨List.mem_of_getElem? (i := 683) (by decide +kernel), by decide +kernel⟩
theorem lm_X3_54 : Cond.methodLink RX3 54 yX8_number ∈ g_tb := List.mem_filter.mpr ⟨List.mem_of_getElem? (i := 687) (by decide +kernel), by decide +kernel⟩
theorem lm_X8_25 : Cond.methodLink RX8 25 yX8_sign ∈ g_tb := List.mem_filter.mpr ⟨List.mem_of_getElem? (i := 691) (by decide +kernel), by decide +kernel⟩
theorem lm_X8_33 : Cond.methodLink RX8 33 yX8_isDigit ∈ g_tb := List.mem_filter.mpr ⟨List.mem_of_getElem? (i := 692) (by decide +kernel), by decide +kernel⟩
theorem lm_X8_29 : Cond.methodLink RX8 29 yX8_failAt ∈ g_tb := List.mem_filter.mpr ⟨List.mem_of_getElem? (i := 696) (by decide +kernel), by decide +kernel⟩
theorem lm_X5_122 : Cond.methodLink RX5 122 yX5_addStep ∈ g_tb := List.mem_filter.mpr ⟨List.mem_of_getElem? (i := 697) (by decide +kernel), by decide +kernel⟩
theorem lm_X5_135 : Cond.methodLink RX5 135 yX4_item ∈ g_tb := List.mem_filter.mpr ⟨List.mem_of_getElem? (i := 701) (by decide +kernel), by decide +kernel⟩
theorem lm_X5_98 : Cond.methodLink RX5 98 yX5_readFork ∈ g_tb := List.mem_filter.mpr ⟨List.mem_of_getElem? (i := 705) (by decide +kernel), by decide +kernel⟩
theorem lm_X5_148 : Cond.methodLink RX5 148 yX8_want ∈ g_tb := List.mem_filter.mpr ⟨List.mem_of_getElem? (i := 709) (by decide +kernel), by decide +kernel⟩
theorem lm_X5_154 : Cond.methodLink RX5 154 yX5_readBranch ∈ g_tb := List.mem_filter.mpr ⟨List.mem_of_getElem? (i := 713) (by decide +kernel), by decide +kernel⟩
theorem lm_X5_158 : Cond.methodLink RX5 158 yX8_takes ∈ g_tb := List.mem_filter.mpr ⟨List.mem_of_getElem? (i := 718) (by decide +kernel), by decide +kernel⟩
theorem lm_X5_104 : Cond.methodLink RX5 104 yX8_failAt ∈ g_tb := List.mem_filter.mpr ⟨List.mem_of_getElem? (i := 722) (by decide +kernel), by decide +kernel⟩
theorem lm_X5_88 : Cond.methodLink RX5 88 yX8_finish ∈ g_tb := List.mem_filter.mpr ⟨List.mem_of_getElem? (i := 723) (by decide +kernel), by decide +kernel⟩
theorem lm_X12_112 : Cond.methodLink RX12 112 yX10_read ∈ g_tb := List.mem_filter.mpr ⟨List.mem_of_getElem? (i := 727) (by decide +kernel), by decide +kernel⟩
theorem lm_X10_21 : Cond.methodLink RX10 21 yX8_begin ∈ g_tb := List.mem_filter.mpr ⟨List.mem_of_getElem? (i := 731) (by decide +kernel), by decide +kernel⟩
theorem lm_X10_26 : Cond.methodLink RX10 26 yX10_readClause ∈ g_tb := List.mem_filter.mpr ⟨List.mem_of_getElem? (i := 732) (by decide +kernel), by decide +kernel⟩
theorem lm_X10_38 : Cond.methodLink RX10 38 yX8_want ∈ g_tb := List.mem_filter.mpr ⟨List.mem_of_getElem? (i := 736) (by decide +kernel), by decide +kernel⟩
theorem lm_X10_42 : Cond.methodLink RX10 42 yX8_sign ∈ g_tb := List.mem_filter.mpr ⟨List.mem_of_getElem? (i := 737) (by decide +kernel), by decide +kernel⟩
theorem lm_X10_45 : Cond.methodLink RX10 45 yX10_readSum ∈ g_tb := List.mem_filter.mpr ⟨List.mem_of_getElem? (i := 738) (by decide +kernel), by decide +kernel⟩
theorem lm_X10_77 : Cond.methodLink RX10 77 yX10_readTerm ∈ g_tb := List.mem_filter.mpr ⟨List.mem_of_getElem? (i := 742) (by decide +kernel), by decide +kernel⟩
theorem lm_X10_80 : Cond.methodLink RX10 80 yX10_readAtom ∈ g_tb := List.mem_filter.mpr ⟨List.mem_of_getElem? (i := 746) (by decide +kernel), by decide +kernel⟩
theorem lm_X10_85 : Cond.methodLink RX10 85 yJ0_indexOf_0f7a4 ∈ g_tb := List.mem_filter.mpr ⟨List.mem_of_getElem? (i := 751) (by decide +kernel), by decide +kernel⟩
theorem lm_X10_65 : Cond.methodLink RX10 65 yX10_goesIn ∈ g_tb := List.mem_filter.mpr ⟨List.mem_of_getElem? (i := 752) (by decide +kernel), by decide +kernel⟩
theorem lm_X10_74 : Cond.methodLink RX10 74 yX8_failAt ∈ g_tb := List.mem_filter.mpr ⟨List.mem_of_getElem? (i := 756) (by decide +kernel), by decide +kernel⟩
theorem lm_X10_56 : Cond.methodLink RX10 56 yX9_put ∈ g_tb := List.mem_filter.mpr ⟨List.mem_of_getElem? (i := 757) (by decide +kernel), by decide +kernel⟩
theorem lm_X10_91 : Cond.methodLink RX10 91 yX8_number ∈ g_tb := List.mem_filter.mpr ⟨List.mem_of_getElem? (i := 761) (by decide +kernel), by decide +kernel⟩
theorem lm_X10_49 : Cond.methodLink RX10 49 yX10_compares ∈ g_tb := List.mem_filter.mpr ⟨List.mem_of_getElem? (i := 762) (by decide +kernel), by decide +kernel⟩
theorem lm_X10_52 : Cond.methodLink RX10 52 yX10_readCondition ∈ g_tb := List.mem_filter.mpr ⟨List.mem_of_getElem? (i := 765) (by decide +kernel), by decide +kernel⟩
theorem lm_X10_59 : Cond.methodLink RX10 59 yX10_readTruth ∈ g_tb := List.mem_filter.mpr ⟨List.mem_of_getElem? (i := 769) (by decide +kernel), by decide +kernel⟩
theorem lm_X10_62 : Cond.methodLink RX10 62 yX10_readUnit ∈ g_tb := List.mem_filter.mpr ⟨List.mem_of_getElem? (i := 773) (by decide +kernel), by decide +kernel⟩
theorem lm_X10_68 : Cond.methodLink RX10 68 yX10_readComparison ∈ g_tb := List.mem_filter.mpr ⟨List.mem_of_getElem? (i := 777) (by decide +kernel), by decide +kernel⟩
theorem lm_X10_30 : Cond.methodLink RX10 30 yX8_takes ∈ g_tb := List.mem_filter.mpr ⟨List.mem_of_getElem? (i := 781) (by decide +kernel), by decide +kernel⟩
theorem lm_X10_34 : Cond.methodLink RX10 34 yX8_finish ∈ g_tb := List.mem_filter.mpr ⟨List.mem_of_getElem? (i := 782) (by decide +kernel), by decide +kernel⟩
theorem lm_L_34 : Cond.methodLink RL 34 yX12_text ∈ g_tb := List.mem_filter.mpr ⟨List.mem_of_getElem? (i := 783) (by decide +kernel), by decide +kernel⟩
theorem lm_X12_115 : Cond.methodLink RX12 115 yX12_bringToTable ∈ g_tb := List.mem_filter.mpr ⟨List.mem_of_getElem? (i := 787) (by decide +kernel), by decide +kernel⟩
theorem lm_X12_362 : Cond.methodLink RX12 362 yX6_forget ∈ g_tb := List.mem_filter.mpr ⟨List.mem_of_getElem? (i := 791) (by decide +kernel), by decide +kernel⟩
theorem lm_X12_365 : Cond.methodLink RX12 365 yX4_allMask ∈ g_tb := List.mem_filter.mpr ⟨List.mem_of_getElem? (i := 795) (by decide +kernel), by decide +kernel⟩
theorem lm_L_38 : Cond.methodLink RL 38 yX12_call ∈ g_tb := List.mem_filter.mpr ⟨List.mem_of_getElem? (i := 799) (by decide +kernel), by decide +kernel⟩
theorem lm_L_52 : Cond.methodLink RL 52 yX12_way ∈ g_tb := List.mem_filter.mpr ⟨List.mem_of_getElem? (i := 803) (by decide +kernel), by decide +kernel⟩
theorem lm_X12_125 : Cond.methodLink RX12 125 yX4_hasLeaf ∈ g_tb := List.mem_filter.mpr ⟨List.mem_of_getElem? (i := 807) (by decide +kernel), by decide +kernel⟩
theorem lm_L_56 : Cond.methodLink RL 56 yX12_fork ∈ g_tb := List.mem_filter.mpr ⟨List.mem_of_getElem? (i := 811) (by decide +kernel), by decide +kernel⟩
theorem lm_X12_153 : Cond.methodLink RX12 153 yX4_hasFork ∈ g_tb := List.mem_filter.mpr ⟨List.mem_of_getElem? (i := 815) (by decide +kernel), by decide +kernel⟩
theorem lm_X12_165 : Cond.methodLink RX12 165 yX7_openMask ∈ g_tb := List.mem_filter.mpr ⟨List.mem_of_getElem? (i := 819) (by decide +kernel), by decide +kernel⟩
theorem lm_X12_168 : Cond.methodLink RX12 168 yJ6_bitCount_0f7a4 ∈ g_tb := List.mem_filter.mpr ⟨List.mem_of_getElem? (i := 823) (by decide +kernel), by decide +kernel⟩
theorem lc_J6_265 : Cond.constant RJ6 265 (1431655765) ∈ g_tb := List.mem_filter.mpr ⟨List.mem_of_getElem? (i := 826) (by decide +kernel), by decide +kernel⟩
theorem lc_J6_266 : Cond.constant RJ6 266 (858993459) ∈ g_tb := List.mem_filter.mpr ⟨List.mem_of_getElem? (i := 827) (by decide +kernel), by decide +kernel⟩
theorem lc_J6_267 : Cond.constant RJ6 267 (252645135) ∈ g_tb := List.mem_filter.mpr ⟨List.mem_of_getElem? (i := 828) (by decide +kernel), by decide +kernel⟩
theorem lm_L_60 : Cond.methodLink RL 60 yX12_branch ∈ g_tb := List.mem_filter.mpr ⟨List.mem_of_getElem? (i := 829) (by decide +kernel), by decide +kernel⟩
theorem lm_X12_179 : Cond.methodLink RX12 179 yX4_hasBranch ∈ g_tb := List.mem_filter.mpr ⟨List.mem_of_getElem? (i := 833) (by decide +kernel), by decide +kernel⟩
theorem lm_X4_54 : Cond.methodLink RX4 54 yX4_hasFork ∈ g_tb := List.mem_filter.mpr ⟨List.mem_of_getElem? (i := 837) (by decide +kernel), by decide +kernel⟩
theorem lm_X12_183 : Cond.methodLink RX12 183 yX7_isOpen ∈ g_tb := List.mem_filter.mpr ⟨List.mem_of_getElem? (i := 838) (by decide +kernel), by decide +kernel⟩
theorem lm_X7_36 : Cond.methodLink RX7 36 yX7_openMask ∈ g_tb := List.mem_filter.mpr ⟨List.mem_of_getElem? (i := 842) (by decide +kernel), by decide +kernel⟩
theorem lm_X12_186 : Cond.methodLink RX12 186 yX4_target ∈ g_tb := List.mem_filter.mpr ⟨List.mem_of_getElem? (i := 843) (by decide +kernel), by decide +kernel⟩
theorem lm_X12_190 : Cond.methodLink RX12 190 yX4_item ∈ g_tb := List.mem_filter.mpr ⟨List.mem_of_getElem? (i := 847) (by decide +kernel), by decide +kernel⟩
theorem lm_L_65 : Cond.methodLink RL 65 yX12_part ∈ g_tb := List.mem_filter.mpr ⟨List.mem_of_getElem? (i := 848) (by decide +kernel), by decide +kernel⟩
theorem lm_X12_194 : Cond.methodLink RX12 194 yX12_differentSelves ∈ g_tb := List.mem_filter.mpr ⟨List.mem_of_getElem? (i := 852) (by decide +kernel), by decide +kernel⟩
theorem lm_X12_197 : Cond.methodLink RX12 197 yX4_parting ∈ g_tb := List.mem_filter.mpr ⟨List.mem_of_getElem? (i := 856) (by decide +kernel), by decide +kernel⟩
theorem lm_L_69 : Cond.methodLink RL 69 yX12_open ∈ g_tb := List.mem_filter.mpr ⟨List.mem_of_getElem? (i := 860) (by decide +kernel), by decide +kernel⟩
theorem lm_X12_204 : Cond.methodLink RX12 204 yX6_tell ∈ g_tb := List.mem_filter.mpr ⟨List.mem_of_getElem? (i := 864) (by decide +kernel), by decide +kernel⟩
theorem lm_L_74 : Cond.methodLink RL 74 yX12_set ∈ g_tb := List.mem_filter.mpr ⟨List.mem_of_getElem? (i := 869) (by decide +kernel), by decide +kernel⟩
theorem lm_X12_209 : Cond.methodLink RX12 209 yX12_isSetting ∈ g_tb := List.mem_filter.mpr ⟨List.mem_of_getElem? (i := 873) (by decide +kernel), by decide +kernel⟩
theorem lm_X12_274 : Cond.methodLink RX12 274 yX12_isTaste ∈ g_tb := List.mem_filter.mpr ⟨List.mem_of_getElem? (i := 877) (by decide +kernel), by decide +kernel⟩
theorem lm_L_78 : Cond.methodLink RL 78 yX12_undo ∈ g_tb := List.mem_filter.mpr ⟨List.mem_of_getElem? (i := 881) (by decide +kernel), by decide +kernel⟩
theorem lm_X12_215 : Cond.methodLink RX12 215 yX6_untell ∈ g_tb := List.mem_filter.mpr ⟨List.mem_of_getElem? (i := 885) (by decide +kernel), by decide +kernel⟩
theorem lm_L_82 : Cond.methodLink RL 82 yX12_odds ∈ g_tb := List.mem_filter.mpr ⟨List.mem_of_getElem? (i := 889) (by decide +kernel), by decide +kernel⟩
theorem lm_X12_219 : Cond.methodLink RX12 219 yX7_parts ∈ g_tb := List.mem_filter.mpr ⟨List.mem_of_getElem? (i := 893) (by decide +kernel), by decide +kernel⟩
theorem lc_X7_102 : Cond.constant RX7 102 (1000000000) ∈ g_tb := List.mem_filter.mpr ⟨List.mem_of_getElem? (i := 897) (by decide +kernel), by decide +kernel⟩
theorem lm_X7_103 : Cond.methodLink RX7 103 yX4_allMask ∈ g_tb := List.mem_filter.mpr ⟨List.mem_of_getElem? (i := 898) (by decide +kernel), by decide +kernel⟩
theorem lm_X7_106 : Cond.methodLink RX7 106 yX7_partsBehind ∈ g_tb := List.mem_filter.mpr ⟨List.mem_of_getElem? (i := 899) (by decide +kernel), by decide +kernel⟩
theorem lm_X7_113 : Cond.methodLink RX7 113 yX4_weights ∈ g_tb := List.mem_filter.mpr ⟨List.mem_of_getElem? (i := 903) (by decide +kernel), by decide +kernel⟩
theorem lm_X4_62 : Cond.methodLink RX4 62 yX4_weight ∈ g_tb := List.mem_filter.mpr ⟨List.mem_of_getElem? (i := 907) (by decide +kernel), by decide +kernel⟩
theorem lm_X4_58 : Cond.methodLink RX4 58 yX4_item ∈ g_tb := List.mem_filter.mpr ⟨List.mem_of_getElem? (i := 911) (by decide +kernel), by decide +kernel⟩
theorem lm_X7_99 : Cond.methodLink RX7 99 yX4_weight ∈ g_tb := List.mem_filter.mpr ⟨List.mem_of_getElem? (i := 912) (by decide +kernel), by decide +kernel⟩
theorem lm_X7_84 : Cond.methodLink RX7 84 yJ6_bitCount_0f7a4 ∈ g_tb := List.mem_filter.mpr ⟨List.mem_of_getElem? (i := 913) (by decide +kernel), by decide +kernel⟩
theorem lm_X7_116 : Cond.methodLink RX7 116 yX7_chosen ∈ g_tb := List.mem_filter.mpr ⟨List.mem_of_getElem? (i := 914) (by decide +kernel), by decide +kernel⟩
theorem lm_X7_89 : Cond.methodLink RX7 89 yX7_rankOf ∈ g_tb := List.mem_filter.mpr ⟨List.mem_of_getElem? (i := 918) (by decide +kernel), by decide +kernel⟩
theorem lm_X7_93 : Cond.methodLink RX7 93 yX4_item ∈ g_tb := List.mem_filter.mpr ⟨List.mem_of_getElem? (i := 922) (by decide +kernel), by decide +kernel⟩
theorem lm_X7_71 : Cond.methodLink RX7 71 yX9_reckon ∈ g_tb := List.mem_filter.mpr ⟨List.mem_of_getElem? (i := 923) (by decide +kernel), by decide +kernel⟩
theorem lm_X9_20 : Cond.methodLink RX9 20 yX9_letterAt ∈ g_tb := List.mem_filter.mpr ⟨List.mem_of_getElem? (i := 927) (by decide +kernel), by decide +kernel⟩
theorem lm_X9_24 : Cond.methodLink RX9 24 yX9_joined ∈ g_tb := List.mem_filter.mpr ⟨List.mem_of_getElem? (i := 930) (by decide +kernel), by decide +kernel⟩
theorem lc_X9_28 : Cond.constantLong RX9 28 (1000000) ∈ g_tb := List.mem_filter.mpr ⟨List.mem_of_getElem? (i := 933) (by decide +kernel), by decide +kernel⟩
theorem lc_X9_30 : Cond.constant RX9 30 (1000000) ∈ g_tb := List.mem_filter.mpr ⟨List.mem_of_getElem? (i := 934) (by decide +kernel), by decide +kernel⟩
theorem lc_X9_31 : Cond.constantLong RX9 31 (-1000000) ∈ g_tb := List.mem_filter.mpr ⟨List.mem_of_getElem? (i := 935) (by decide +kernel), by decide +kernel⟩
theorem lc_X9_33 : Cond.constant RX9 33 (-1000000) ∈ g_tb := List.mem_filter.mpr ⟨List.mem_of_getElem? (i := 936) (by decide +kernel), by decide +kernel⟩
theorem lm_L_86 : Cond.methodLink RL 86 yX12_mean ∈ g_tb := List.mem_filter.mpr ⟨List.mem_of_getElem? (i := 937) (by decide +kernel), by decide +kernel⟩
theorem lc_X12_223 : Cond.constant RX12 223 (-2000000000) ∈ g_tb := List.mem_filter.mpr ⟨List.mem_of_getElem? (i := 941) (by decide +kernel), by decide +kernel⟩
theorem lm_X12_224 : Cond.methodLink RX12 224 yX7_average ∈ g_tb := List.mem_filter.mpr ⟨List.mem_of_getElem? (i := 942) (by decide +kernel), by decide +kernel⟩
theorem lm_X7_119 : Cond.methodLink RX7 119 yX7_liked ∈ g_tb := List.mem_filter.mpr ⟨List.mem_of_getElem? (i := 946) (by decide +kernel), by decide +kernel⟩
theorem lm_X7_77 : Cond.methodLink RX7 77 yX7_worthBy ∈ g_tb := List.mem_filter.mpr ⟨List.mem_of_getElem? (i := 950) (by decide +kernel), by decide +kernel⟩
theorem lm_X7_122 : Cond.methodLink RX7 122 yX7_parts ∈ g_tb := List.mem_filter.mpr ⟨List.mem_of_getElem? (i := 955) (by decide +kernel), by decide +kernel⟩
theorem lc_X7_126 : Cond.constantLong RX7 126 (1000000000) ∈ g_tb := List.mem_filter.mpr ⟨List.mem_of_getElem? (i := 956) (by decide +kernel), by decide +kernel⟩
theorem lm_L_90 : Cond.methodLink RL 90 yX12_worth ∈ g_tb := List.mem_filter.mpr ⟨List.mem_of_getElem? (i := 957) (by decide +kernel), by decide +kernel⟩
theorem lm_X12_227 : Cond.methodLink RX12 227 yX7_liked ∈ g_tb := List.mem_filter.mpr ⟨List.mem_of_getElem? (i := 961) (by decide +kernel), by decide +kernel⟩
theorem lm_L_94 : Cond.methodLink RL 94 yX12_value ∈ g_tb := List.mem_filter.mpr ⟨List.mem_of_getElem? (i := 962) (by decide +kernel), by decide +kernel⟩
theorem lm_X12_230 : Cond.methodLink RX12 230 yX11_reckon ∈ g_tb := List.mem_filter.mpr ⟨List.mem_of_getElem? (i := 966) (by decide +kernel), by decide +kernel⟩
theorem lm_X11_34 : Cond.methodLink RX11 34 yX7_liked ∈ g_tb := List.mem_filter.mpr ⟨List.mem_of_getElem? (i := 970) (by decide +kernel), by decide +kernel⟩
theorem lm_X11_44 : Cond.methodLink RX11 44 yX11_byChance ∈ g_tb := List.mem_filter.mpr ⟨List.mem_of_getElem? (i := 971) (by decide +kernel), by decide +kernel⟩
theorem lm_X11_64 : Cond.methodLink RX11 64 yX7_isOpen ∈ g_tb := List.mem_filter.mpr ⟨List.mem_of_getElem? (i := 975) (by decide +kernel), by decide +kernel⟩
theorem lm_X11_50 : Cond.methodLink RX11 50 yX11_behind ∈ g_tb := List.mem_filter.mpr ⟨List.mem_of_getElem? (i := 976) (by decide +kernel), by decide +kernel⟩
theorem lm_X11_54 : Cond.methodLink RX11 54 yX4_hasBranch ∈ g_tb := List.mem_filter.mpr ⟨List.mem_of_getElem? (i := 980) (by decide +kernel), by decide +kernel⟩
theorem lm_X11_58 : Cond.methodLink RX11 58 yX4_target ∈ g_tb := List.mem_filter.mpr ⟨List.mem_of_getElem? (i := 981) (by decide +kernel), by decide +kernel⟩
theorem lm_X11_67 : Cond.methodLink RX11 67 yX4_weight ∈ g_tb := List.mem_filter.mpr ⟨List.mem_of_getElem? (i := 982) (by decide +kernel), by decide +kernel⟩
theorem lm_X11_70 : Cond.methodLink RX11 70 yX7_openMask ∈ g_tb := List.mem_filter.mpr ⟨List.mem_of_getElem? (i := 983) (by decide +kernel), by decide +kernel⟩
theorem lm_X11_73 : Cond.methodLink RX11 73 yX4_weights ∈ g_tb := List.mem_filter.mpr ⟨List.mem_of_getElem? (i := 984) (by decide +kernel), by decide +kernel⟩
theorem lm_X11_47 : Cond.methodLink RX11 47 yX11_bestBranch ∈ g_tb := List.mem_filter.mpr ⟨List.mem_of_getElem? (i := 985) (by decide +kernel), by decide +kernel⟩
theorem lm_X12_236 : Cond.methodLink RX12 236 yX11_behind ∈ g_tb := List.mem_filter.mpr ⟨List.mem_of_getElem? (i := 989) (by decide +kernel), by decide +kernel⟩
theorem lm_L_98 : Cond.methodLink RL 98 yX12_advice ∈ g_tb := List.mem_filter.mpr ⟨List.mem_of_getElem? (i := 990) (by decide +kernel), by decide +kernel⟩
theorem lm_X12_238 : Cond.methodLink RX12 238 yX11_bestBranch ∈ g_tb := List.mem_filter.mpr ⟨List.mem_of_getElem? (i := 994) (by decide +kernel), by decide +kernel⟩
theorem lm_L_102 : Cond.methodLink RL 102 yX12_regret ∈ g_tb := List.mem_filter.mpr ⟨List.mem_of_getElem? (i := 995) (by decide +kernel), by decide +kernel⟩
theorem lm_X12_241 : Cond.methodLink RX12 241 yX4_stepAt ∈ g_tb := List.mem_filter.mpr ⟨List.mem_of_getElem? (i := 999) (by decide +kernel), by decide +kernel⟩
theorem lm_X12_244 : Cond.methodLink RX12 244 yX11_regretAt ∈ g_tb := List.mem_filter.mpr ⟨List.mem_of_getElem? (i := 1003) (by decide +kernel), by decide +kernel⟩
theorem lm_X11_83 : Cond.methodLink RX11 83 yJ9_max_7cf53 ∈ g_tb := List.mem_filter.mpr ⟨List.mem_of_getElem? (i := 1007) (by decide +kernel), by decide +kernel⟩
theorem lm_L_106 : Cond.methodLink RL 106 yX12_sore ∈ g_tb := List.mem_filter.mpr ⟨List.mem_of_getElem? (i := 1008) (by decide +kernel), by decide +kernel⟩
theorem lm_X12_247 : Cond.methodLink RX12 247 yX11_sorest ∈ g_tb := List.mem_filter.mpr ⟨List.mem_of_getElem? (i := 1012) (by decide +kernel), by decide +kernel⟩
theorem lm_X11_91 : Cond.methodLink RX11 91 yX11_regretAt ∈ g_tb := List.mem_filter.mpr ⟨List.mem_of_getElem? (i := 1016) (by decide +kernel), by decide +kernel⟩
theorem lm_X12_250 : Cond.methodLink RX12 250 yX11_regrets ∈ g_tb := List.mem_filter.mpr ⟨List.mem_of_getElem? (i := 1017) (by decide +kernel), by decide +kernel⟩
theorem lm_L_110 : Cond.methodLink RL 110 yX12_apology ∈ g_tb := List.mem_filter.mpr ⟨List.mem_of_getElem? (i := 1021) (by decide +kernel), by decide +kernel⟩
theorem lm_X12_253 : Cond.methodLink RX12 253 yX11_lead ∈ g_tb := List.mem_filter.mpr ⟨List.mem_of_getElem? (i := 1025) (by decide +kernel), by decide +kernel⟩
theorem lm_X11_94 : Cond.methodLink RX11 94 yX4_parting ∈ g_tb := List.mem_filter.mpr ⟨List.mem_of_getElem? (i := 1029) (by decide +kernel), by decide +kernel⟩
theorem lm_X11_97 : Cond.methodLink RX11 97 yX4_stepAt ∈ g_tb := List.mem_filter.mpr ⟨List.mem_of_getElem? (i := 1030) (by decide +kernel), by decide +kernel⟩
theorem lm_L_114 : Cond.methodLink RL 114 yX12_share ∈ g_tb := List.mem_filter.mpr ⟨List.mem_of_getElem? (i := 1031) (by decide +kernel), by decide +kernel⟩
theorem lm_X12_136 : Cond.methodLink RX12 136 yX7_isThere ∈ g_tb := List.mem_filter.mpr ⟨List.mem_of_getElem? (i := 1035) (by decide +kernel), by decide +kernel⟩
theorem lm_X7_50 : Cond.methodLink RX7 50 yX7_isOpen ∈ g_tb := List.mem_filter.mpr ⟨List.mem_of_getElem? (i := 1039) (by decide +kernel), by decide +kernel⟩
theorem lm_X12_256 : Cond.methodLink RX12 256 yX12_isPot ∈ g_tb := List.mem_filter.mpr ⟨List.mem_of_getElem? (i := 1040) (by decide +kernel), by decide +kernel⟩
theorem lm_X12_259 : Cond.methodLink RX12 259 yX1_shareOf ∈ g_tb := List.mem_filter.mpr ⟨List.mem_of_getElem? (i := 1044) (by decide +kernel), by decide +kernel⟩
theorem lm_X1_68 : Cond.methodLink RX1 68 yX1_weigh ∈ g_tb := List.mem_filter.mpr ⟨List.mem_of_getElem? (i := 1048) (by decide +kernel), by decide +kernel⟩
theorem lm_X1_46 : Cond.methodLink RX1 46 yX11_reckon ∈ g_tb := List.mem_filter.mpr ⟨List.mem_of_getElem? (i := 1052) (by decide +kernel), by decide +kernel⟩
theorem lm_X1_61 : Cond.methodLink RX1 61 yX1_shares ∈ g_tb := List.mem_filter.mpr ⟨List.mem_of_getElem? (i := 1053) (by decide +kernel), by decide +kernel⟩
theorem lm_X1_34 : Cond.methodLink RX1 34 yX7_isThere ∈ g_tb := List.mem_filter.mpr ⟨List.mem_of_getElem? (i := 1057) (by decide +kernel), by decide +kernel⟩
theorem lm_X1_40 : Cond.methodLink RX1 40 yX7_isDead ∈ g_tb := List.mem_filter.mpr ⟨List.mem_of_getElem? (i := 1058) (by decide +kernel), by decide +kernel⟩
theorem lm_X1_43 : Cond.methodLink RX1 43 yX7_hasLaw ∈ g_tb := List.mem_filter.mpr ⟨List.mem_of_getElem? (i := 1062) (by decide +kernel), by decide +kernel⟩
theorem lm_X1_64 : Cond.methodLink RX1 64 yX11_regrets ∈ g_tb := List.mem_filter.mpr ⟨List.mem_of_getElem? (i := 1066) (by decide +kernel), by decide +kernel⟩
theorem lm_L_118 : Cond.methodLink RL 118 yX12_demand ∈ g_tb := List.mem_filter.mpr ⟨List.mem_of_getElem? (i := 1067) (by decide +kernel), by decide +kernel⟩
theorem lm_X12_262 : Cond.methodLink RX12 262 yX1_demandOf ∈ g_tb := List.mem_filter.mpr ⟨List.mem_of_getElem? (i := 1071) (by decide +kernel), by decide +kernel⟩
theorem lm_L_122 : Cond.methodLink RL 122 yX12_terms ∈ g_tb := List.mem_filter.mpr ⟨List.mem_of_getElem? (i := 1075) (by decide +kernel), by decide +kernel⟩
theorem lm_X12_265 : Cond.methodLink RX12 265 yX1_demands ∈ g_tb := List.mem_filter.mpr ⟨List.mem_of_getElem? (i := 1079) (by decide +kernel), by decide +kernel⟩
theorem lm_X1_75 : Cond.methodLink RX1 75 yX1_demandOf ∈ g_tb := List.mem_filter.mpr ⟨List.mem_of_getElem? (i := 1083) (by decide +kernel), by decide +kernel⟩
theorem lm_L_126 : Cond.methodLink RL 126 yX12_away ∈ g_tb := List.mem_filter.mpr ⟨List.mem_of_getElem? (i := 1084) (by decide +kernel), by decide +kernel⟩
theorem lm_X12_268 : Cond.methodLink RX12 268 yX1_fewestAway ∈ g_tb := List.mem_filter.mpr ⟨List.mem_of_getElem? (i := 1088) (by decide +kernel), by decide +kernel⟩
theorem lm_X1_78 : Cond.methodLink RX1 78 yX1_demands ∈ g_tb := List.mem_filter.mpr ⟨List.mem_of_getElem? (i := 1092) (by decide +kernel), by decide +kernel⟩
theorem lm_X1_82 : Cond.methodLink RX1 82 yJ6_bitCount_0f7a4 ∈ g_tb := List.mem_filter.mpr ⟨List.mem_of_getElem? (i := 1093) (by decide +kernel), by decide +kernel⟩
theorem lm_X1_87 : Cond.methodLink RX1 87 yX1_askedBy ∈ g_tb := List.mem_filter.mpr ⟨List.mem_of_getElem? (i := 1094) (by decide +kernel), by decide +kernel⟩
theorem lm_L_130 : Cond.methodLink RL 130 yX12_elected ∈ g_tb := List.mem_filter.mpr ⟨List.mem_of_getElem? (i := 1098) (by decide +kernel), by decide +kernel⟩
theorem lm_X12_271 : Cond.methodLink RX12 271 yX1_winner ∈ g_tb := List.mem_filter.mpr ⟨List.mem_of_getElem? (i := 1102) (by decide +kernel), by decide +kernel⟩
theorem lm_X1_97 : Cond.methodLink RX1 97 yX1_hear ∈ g_tb := List.mem_filter.mpr ⟨List.mem_of_getElem? (i := 1106) (by decide +kernel), by decide +kernel⟩
theorem lm_X1_93 : Cond.methodLink RX1 93 yX7_worthBy ∈ g_tb := List.mem_filter.mpr ⟨List.mem_of_getElem? (i := 1110) (by decide +kernel), by decide +kernel⟩
theorem lm_X1_101 : Cond.methodLink RX1 101 yX1_isVoter ∈ g_tb := List.mem_filter.mpr ⟨List.mem_of_getElem? (i := 1111) (by decide +kernel), by decide +kernel⟩
theorem lm_X1_104 : Cond.methodLink RX1 104 yX1_votedFor ∈ g_tb := List.mem_filter.mpr ⟨List.mem_of_getElem? (i := 1115) (by decide +kernel), by decide +kernel⟩
theorem lm_L_134 : Cond.methodLink RL 134 yX12_duel ∈ g_tb := List.mem_filter.mpr ⟨List.mem_of_getElem? (i := 1119) (by decide +kernel), by decide +kernel⟩
theorem lm_X12_277 : Cond.methodLink RX12 277 yX1_hear ∈ g_tb := List.mem_filter.mpr ⟨List.mem_of_getElem? (i := 1123) (by decide +kernel), by decide +kernel⟩
theorem lm_X12_280 : Cond.methodLink RX12 280 yX1_ahead ∈ g_tb := List.mem_filter.mpr ⟨List.mem_of_getElem? (i := 1124) (by decide +kernel), by decide +kernel⟩
theorem lm_X1_107 : Cond.methodLink RX1 107 yJ6_compare_7cf53 ∈ g_tb := List.mem_filter.mpr ⟨List.mem_of_getElem? (i := 1128) (by decide +kernel), by decide +kernel⟩
theorem lm_L_138 : Cond.methodLink RL 138 yX12_beats ∈ g_tb := List.mem_filter.mpr ⟨List.mem_of_getElem? (i := 1131) (by decide +kernel), by decide +kernel⟩
theorem lm_X12_282 : Cond.methodLink RX12 282 yX1_beatsAll ∈ g_tb := List.mem_filter.mpr ⟨List.mem_of_getElem? (i := 1135) (by decide +kernel), by decide +kernel⟩
theorem lm_X1_110 : Cond.methodLink RX1 110 yX1_ahead ∈ g_tb := List.mem_filter.mpr ⟨List.mem_of_getElem? (i := 1139) (by decide +kernel), by decide +kernel⟩
theorem lm_L_142 : Cond.methodLink RL 142 yX12_ring ∈ g_tb := List.mem_filter.mpr ⟨List.mem_of_getElem? (i := 1140) (by decide +kernel), by decide +kernel⟩
theorem lm_X12_285 : Cond.methodLink RX12 285 yX1_leastRing ∈ g_tb := List.mem_filter.mpr ⟨List.mem_of_getElem? (i := 1144) (by decide +kernel), by decide +kernel⟩
theorem lm_X1_113 : Cond.methodLink RX1 113 yX1_ringEnd ∈ g_tb := List.mem_filter.mpr ⟨List.mem_of_getElem? (i := 1148) (by decide +kernel), by decide +kernel⟩
theorem lm_L_146 : Cond.methodLink RL 146 yX12_all ∈ g_tb := List.mem_filter.mpr ⟨List.mem_of_getElem? (i := 1152) (by decide +kernel), by decide +kernel⟩
theorem lm_X12_288 : Cond.methodLink RX12 288 yX2_common ∈ g_tb := List.mem_filter.mpr ⟨List.mem_of_getElem? (i := 1156) (by decide +kernel), by decide +kernel⟩
theorem lm_X2_41 : Cond.methodLink RX2 41 yX2_factsOf ∈ g_tb := List.mem_filter.mpr ⟨List.mem_of_getElem? (i := 1160) (by decide +kernel), by decide +kernel⟩
theorem lm_L_150 : Cond.methodLink RL 150 yX12_telling ∈ g_tb := List.mem_filter.mpr ⟨List.mem_of_getElem? (i := 1164) (by decide +kernel), by decide +kernel⟩
theorem lm_X12_291 : Cond.methodLink RX12 291 yX2_fewestTelling ∈ g_tb := List.mem_filter.mpr ⟨List.mem_of_getElem? (i := 1168) (by decide +kernel), by decide +kernel⟩
theorem lm_X2_49 : Cond.methodLink RX2 49 yX2_sameAs ∈ g_tb := List.mem_filter.mpr ⟨List.mem_of_getElem? (i := 1172) (by decide +kernel), by decide +kernel⟩
theorem lm_X2_45 : Cond.methodLink RX2 45 yX7_isThere ∈ g_tb := List.mem_filter.mpr ⟨List.mem_of_getElem? (i := 1176) (by decide +kernel), by decide +kernel⟩
theorem lm_X2_52 : Cond.methodLink RX2 52 yX7_thereBits ∈ g_tb := List.mem_filter.mpr ⟨List.mem_of_getElem? (i := 1177) (by decide +kernel), by decide +kernel⟩
theorem lm_X7_58 : Cond.methodLink RX7 58 yX7_isThere ∈ g_tb := List.mem_filter.mpr ⟨List.mem_of_getElem? (i := 1181) (by decide +kernel), by decide +kernel⟩
theorem lm_X2_56 : Cond.methodLink RX2 56 yJ6_bitCount_0f7a4 ∈ g_tb := List.mem_filter.mpr ⟨List.mem_of_getElem? (i := 1182) (by decide +kernel), by decide +kernel⟩
theorem lm_X2_61 : Cond.methodLink RX2 61 yX2_tells ∈ g_tb := List.mem_filter.mpr ⟨List.mem_of_getElem? (i := 1183) (by decide +kernel), by decide +kernel⟩
theorem lm_L_154 : Cond.methodLink RL 154 yX12_twins ∈ g_tb := List.mem_filter.mpr ⟨List.mem_of_getElem? (i := 1187) (by decide +kernel), by decide +kernel⟩
theorem lm_X12_294 : Cond.methodLink RX12 294 yX2_sameAs ∈ g_tb := List.mem_filter.mpr ⟨List.mem_of_getElem? (i := 1191) (by decide +kernel), by decide +kernel⟩
theorem lm_L_158 : Cond.methodLink RL 158 yX12_sentence ∈ g_tb := List.mem_filter.mpr ⟨List.mem_of_getElem? (i := 1192) (by decide +kernel), by decide +kernel⟩
theorem lm_X12_297 : Cond.methodLink RX12 297 yX2_fewestForAll ∈ g_tb := List.mem_filter.mpr ⟨List.mem_of_getElem? (i := 1196) (by decide +kernel), by decide +kernel⟩
theorem lm_X2_65 : Cond.methodLink RX2 65 yX2_reachesAll ∈ g_tb := List.mem_filter.mpr ⟨List.mem_of_getElem? (i := 1200) (by decide +kernel), by decide +kernel⟩
theorem lm_L_162 : Cond.methodLink RL 162 yX12_leads ∈ g_tb := List.mem_filter.mpr ⟨List.mem_of_getElem? (i := 1204) (by decide +kernel), by decide +kernel⟩
theorem lm_X12_300 : Cond.methodLink RX12 300 yX2_leadsTo ∈ g_tb := List.mem_filter.mpr ⟨List.mem_of_getElem? (i := 1208) (by decide +kernel), by decide +kernel⟩
theorem lm_L_166 : Cond.methodLink RL 166 yX12_clue ∈ g_tb := List.mem_filter.mpr ⟨List.mem_of_getElem? (i := 1212) (by decide +kernel), by decide +kernel⟩
theorem lm_X12_303 : Cond.methodLink RX12 303 yX2_addClue ∈ g_tb := List.mem_filter.mpr ⟨List.mem_of_getElem? (i := 1216) (by decide +kernel), by decide +kernel⟩
theorem lm_L_170 : Cond.methodLink RL 170 yX12_can ∈ g_tb := List.mem_filter.mpr ⟨List.mem_of_getElem? (i := 1220) (by decide +kernel), by decide +kernel⟩
theorem lm_X12_306 : Cond.methodLink RX12 306 yX2_possible ∈ g_tb := List.mem_filter.mpr ⟨List.mem_of_getElem? (i := 1224) (by decide +kernel), by decide +kernel⟩
theorem lm_X2_88 : Cond.methodLink RX2 88 yX2_canBe ∈ g_tb := List.mem_filter.mpr ⟨List.mem_of_getElem? (i := 1228) (by decide +kernel), by decide +kernel⟩
theorem lm_X2_85 : Cond.methodLink RX2 85 yX2_holds ∈ g_tb := List.mem_filter.mpr ⟨List.mem_of_getElem? (i := 1232) (by decide +kernel), by decide +kernel⟩
theorem lm_X2_72 : Cond.methodLink RX2 72 yX2_hasFact ∈ g_tb := List.mem_filter.mpr ⟨List.mem_of_getElem? (i := 1236) (by decide +kernel), by decide +kernel⟩
theorem lm_X2_75 : Cond.methodLink RX2 75 yX4_stepAt ∈ g_tb := List.mem_filter.mpr ⟨List.mem_of_getElem? (i := 1240) (by decide +kernel), by decide +kernel⟩
theorem lm_X2_79 : Cond.methodLink RX2 79 yX4_hasLeaf ∈ g_tb := List.mem_filter.mpr ⟨List.mem_of_getElem? (i := 1241) (by decide +kernel), by decide +kernel⟩
theorem lm_X2_82 : Cond.methodLink RX2 82 yX4_parting ∈ g_tb := List.mem_filter.mpr ⟨List.mem_of_getElem? (i := 1242) (by decide +kernel), by decide +kernel⟩
theorem lm_X12_309 : Cond.methodLink RX12 309 yX2_likeliest ∈ g_tb := List.mem_filter.mpr ⟨List.mem_of_getElem? (i := 1243) (by decide +kernel), by decide +kernel⟩
theorem lm_X2_91 : Cond.methodLink RX2 91 yX7_parts ∈ g_tb := List.mem_filter.mpr ⟨List.mem_of_getElem? (i := 1247) (by decide +kernel), by decide +kernel⟩
theorem lm_L_174 : Cond.methodLink RL 174 yX12_cross ∈ g_tb := List.mem_filter.mpr ⟨List.mem_of_getElem? (i := 1248) (by decide +kernel), by decide +kernel⟩
theorem lm_X12_312 : Cond.methodLink RX12 312 yX12_isCode ∈ g_tb := List.mem_filter.mpr ⟨List.mem_of_getElem? (i := 1252) (by decide +kernel), by decide +kernel⟩
theorem lm_X12_315 : Cond.methodLink RX12 315 yX2_crossing ∈ g_tb := List.mem_filter.mpr ⟨List.mem_of_getElem? (i := 1256) (by decide +kernel), by decide +kernel⟩
theorem lm_X2_104 : Cond.methodLink RX2 104 yX4_item ∈ g_tb := List.mem_filter.mpr ⟨List.mem_of_getElem? (i := 1259) (by decide +kernel), by decide +kernel⟩
theorem lm_X2_111 : Cond.methodLink RX2 111 yX2_hasInYear ∈ g_tb := List.mem_filter.mpr ⟨List.mem_of_getElem? (i := 1260) (by decide +kernel), by decide +kernel⟩
theorem lm_L_178 : Cond.methodLink RL 178 yX12_meetings ∈ g_tb := List.mem_filter.mpr ⟨List.mem_of_getElem? (i := 1263) (by decide +kernel), by decide +kernel⟩
theorem lm_X12_319 : Cond.methodLink RX12 319 yX2_pairs ∈ g_tb := List.mem_filter.mpr ⟨List.mem_of_getElem? (i := 1267) (by decide +kernel), by decide +kernel⟩
theorem lm_X2_119 : Cond.methodLink RX2 119 yX2_crossed ∈ g_tb := List.mem_filter.mpr ⟨List.mem_of_getElem? (i := 1270) (by decide +kernel), by decide +kernel⟩
theorem lm_X2_115 : Cond.methodLink RX2 115 yX2_crossing ∈ g_tb := List.mem_filter.mpr ⟨List.mem_of_getElem? (i := 1273) (by decide +kernel), by decide +kernel⟩
theorem lm_X12_323 : Cond.methodLink RX12 323 yX2_crossesMost ∈ g_tb := List.mem_filter.mpr ⟨List.mem_of_getElem? (i := 1274) (by decide +kernel), by decide +kernel⟩
theorem lm_L_184 : Cond.methodLink RL 184 yX12_birthday ∈ g_tb := List.mem_filter.mpr ⟨List.mem_of_getElem? (i := 1277) (by decide +kernel), by decide +kernel⟩
theorem lm_X12_326 : Cond.methodLink RX12 326 yX0_putBy ∈ g_tb := List.mem_filter.mpr ⟨List.mem_of_getElem? (i := 1281) (by decide +kernel), by decide +kernel⟩
theorem lm_X0_27 : Cond.methodLink RX0 27 yX0_drawnSelf ∈ g_tb := List.mem_filter.mpr ⟨List.mem_of_getElem? (i := 1285) (by decide +kernel), by decide +kernel⟩
theorem lm_X0_46 : Cond.methodLink RX0 46 yX0_drawnBranch ∈ g_tb := List.mem_filter.mpr ⟨List.mem_of_getElem? (i := 1289) (by decide +kernel), by decide +kernel⟩
theorem lm_X0_58 : Cond.methodLink RX0 58 yX7_openMask ∈ g_tb := List.mem_filter.mpr ⟨List.mem_of_getElem? (i := 1293) (by decide +kernel), by decide +kernel⟩
theorem lm_X0_64 : Cond.methodLink RX0 64 yX4_weights ∈ g_tb := List.mem_filter.mpr ⟨List.mem_of_getElem? (i := 1294) (by decide +kernel), by decide +kernel⟩
theorem lm_X0_67 : Cond.methodLink RX0 67 yX0_draw ∈ g_tb := List.mem_filter.mpr ⟨List.mem_of_getElem? (i := 1295) (by decide +kernel), by decide +kernel⟩
theorem lc_X0_31 : Cond.constantLong RX0 31 (6364136223846793005) ∈ g_tb := List.mem_filter.mpr ⟨List.mem_of_getElem? (i := 1299) (by decide +kernel), by decide +kernel⟩
theorem lc_X0_33 : Cond.constantLong RX0 33 (1442695040888963407) ∈ g_tb := List.mem_filter.mpr ⟨List.mem_of_getElem? (i := 1300) (by decide +kernel), by decide +kernel⟩
theorem lm_X0_70 : Cond.methodLink RX0 70 yX0_branchAt ∈ g_tb := List.mem_filter.mpr ⟨List.mem_of_getElem? (i := 1301) (by decide +kernel), by decide +kernel⟩
theorem lm_X0_94 : Cond.methodLink RX0 94 yX4_weight ∈ g_tb := List.mem_filter.mpr ⟨List.mem_of_getElem? (i := 1305) (by decide +kernel), by decide +kernel⟩
theorem lm_X0_83 : Cond.methodLink RX0 83 yJ6_bitCount_0f7a4 ∈ g_tb := List.mem_filter.mpr ⟨List.mem_of_getElem? (i := 1306) (by decide +kernel), by decide +kernel⟩
theorem lm_X0_88 : Cond.methodLink RX0 88 yX7_chosen ∈ g_tb := List.mem_filter.mpr ⟨List.mem_of_getElem? (i := 1307) (by decide +kernel), by decide +kernel⟩
theorem lm_X0_50 : Cond.methodLink RX0 50 yX4_hasBranch ∈ g_tb := List.mem_filter.mpr ⟨List.mem_of_getElem? (i := 1308) (by decide +kernel), by decide +kernel⟩
theorem lm_X0_54 : Cond.methodLink RX0 54 yX4_target ∈ g_tb := List.mem_filter.mpr ⟨List.mem_of_getElem? (i := 1309) (by decide +kernel), by decide +kernel⟩
theorem lm_L_189 : Cond.methodLink RL 189 yX12_born ∈ g_tb := List.mem_filter.mpr ⟨List.mem_of_getElem? (i := 1310) (by decide +kernel), by decide +kernel⟩
theorem lm_L_193 : Cond.methodLink RL 193 yX12_take ∈ g_tb := List.mem_filter.mpr ⟨List.mem_of_getElem? (i := 1314) (by decide +kernel), by decide +kernel⟩
theorem lm_L_197 : Cond.methodLink RL 197 yX12_town ∈ g_tb := List.mem_filter.mpr ⟨List.mem_of_getElem? (i := 1318) (by decide +kernel), by decide +kernel⟩
theorem lm_X12_336 : Cond.methodLink RX12 336 yX0_howMany ∈ g_tb := List.mem_filter.mpr ⟨List.mem_of_getElem? (i := 1322) (by decide +kernel), by decide +kernel⟩
theorem lm_L_202 : Cond.methodLink RL 202 yX12_image ∈ g_tb := List.mem_filter.mpr ⟨List.mem_of_getElem? (i := 1326) (by decide +kernel), by decide +kernel⟩
theorem lm_X12_340 : Cond.methodLink RX12 340 yX6_keepImage ∈ g_tb := List.mem_filter.mpr ⟨List.mem_of_getElem? (i := 1330) (by decide +kernel), by decide +kernel⟩
theorem lm_X12_343 : Cond.methodLink RX12 343 yX7_thereBits ∈ g_tb := List.mem_filter.mpr ⟨List.mem_of_getElem? (i := 1334) (by decide +kernel), by decide +kernel⟩
theorem lm_L_206 : Cond.methodLink RL 206 yX12_back ∈ g_tb := List.mem_filter.mpr ⟨List.mem_of_getElem? (i := 1335) (by decide +kernel), by decide +kernel⟩
theorem lm_X12_350 : Cond.methodLink RX12 350 yX6_takeImage ∈ g_tb := List.mem_filter.mpr ⟨List.mem_of_getElem? (i := 1339) (by decide +kernel), by decide +kernel⟩
theorem lm_L_210 : Cond.methodLink RL 210 yX12_count ∈ g_tb := List.mem_filter.mpr ⟨List.mem_of_getElem? (i := 1343) (by decide +kernel), by decide +kernel⟩
theorem lm_L_42 : Cond.methodLink RL 42 yL_self ∈ g_tb := List.mem_filter.mpr ⟨List.mem_of_getElem? (i := 1347) (by decide +kernel), by decide +kernel⟩
theorem lm_L_7 : Cond.methodLink RL 7 yX12_self ∈ g_tb := List.mem_filter.mpr ⟨List.mem_of_getElem? (i := 1351) (by decide +kernel), by decide +kernel⟩
theorem lm_L_18 : Cond.methodLink RL 18 yX13_init ∈ g_tb := List.mem_filter.mpr ⟨List.mem_of_getElem? (i := 1422) (by decide +kernel), by decide +kernel⟩
theorem lk_X13_102 : g_lk RX13 102 13 0 0 "I" := ⟨RX13, "thrown", TX13, 46, false, rfl, rfl, by decide, rfl, List.mem_filter.mpr ⟨List.mem_of_getElem? (i := 1428) (by decide +kernel), by decide +kernel⟩, rfl⟩
theorem lk_X13_9 : g_lkF RX13 9 13 1 2 "[B" := ⟨RX13, "tape", TX13, 46, rfl, rfl, by decide, rfl, List.mem_filter.mpr ⟨List.mem_of_getElem? (i := 1429) (by decide +kernel), by decide +kernel⟩⟩
theorem lk_X13_13 : g_lkF RX13 13 13 2 2 "[B" := ⟨RX13, "texts", TX13, 46, rfl, rfl, by decide, rfl, List.mem_filter.mpr ⟨List.mem_of_getElem? (i := 1430) (by decide +kernel), by decide +kernel⟩⟩
theorem lk_X13_16 : g_lkF RX13 16 13 3 2 "[I" := ⟨RX13, "textLong", TX13, 46, rfl, rfl, by decide, rfl, List.mem_filter.mpr ⟨List.mem_of_getElem? (i := 1431) (by decide +kernel), by decide +kernel⟩⟩
theorem lk_X13_20 : g_lkF RX13 20 13 4 2 "[I" := ⟨RX13, "letters", TX13, 46, rfl, rfl, by decide, rfl, List.mem_filter.mpr ⟨List.mem_of_getElem? (i := 1432) (by decide +kernel), by decide +kernel⟩⟩
theorem lk_X13_23 : g_lk RX13 23 13 5 2 "[B" := ⟨RX13, "text", TX13, 46, false, rfl, rfl, by decide, rfl, List.mem_filter.mpr ⟨List.mem_of_getElem? (i := 1433) (by decide +kernel), by decide +kernel⟩, rfl⟩
theorem lk_X13_115 : g_lk RX13 115 13 6 0 "I" := ⟨RX13, "length", TX13, 46, false, rfl, rfl, by decide, rfl, List.mem_filter.mpr ⟨List.mem_of_getElem? (i := 1434) (by decide +kernel), by decide +kernel⟩, rfl⟩
theorem lk_X13_284 : g_lk RX13 284 13 7 0 "I" := ⟨RX13, "tasteMany", TX13, 46, false, rfl, rfl, by decide, rfl, List.mem_filter.mpr ⟨List.mem_of_getElem? (i := 1435) (by decide +kernel), by decide +kernel⟩, rfl⟩
theorem lk_X13_131 : g_lk RX13 131 13 8 0 "I" := ⟨RX13, "begins", TX13, 46, false, rfl, rfl, by decide, rfl, List.mem_filter.mpr ⟨List.mem_of_getElem? (i := 1436) (by decide +kernel), by decide +kernel⟩, rfl⟩
theorem lk_X13_128 : g_lk RX13 128 13 9 0 "I" := ⟨RX13, "ends", TX13, 46, false, rfl, rfl, by decide, rfl, List.mem_filter.mpr ⟨List.mem_of_getElem? (i := 1437) (by decide +kernel), by decide +kernel⟩, rfl⟩
theorem lk_X13_125 : g_lk RX13 125 13 10 0 "I" := ⟨RX13, "at", TX13, 46, false, rfl, rfl, by decide, rfl, List.mem_filter.mpr ⟨List.mem_of_getElem? (i := 1438) (by decide +kernel), by decide +kernel⟩, rfl⟩
theorem lk_X13_134 : g_lk RX13 134 13 11 0 "I" := ⟨RX13, "fault", TX13, 46, false, rfl, rfl, by decide, rfl, List.mem_filter.mpr ⟨List.mem_of_getElem? (i := 1439) (by decide +kernel), by decide +kernel⟩, rfl⟩
theorem lk_X13_137 : g_lk RX13 137 13 12 0 "I" := ⟨RX13, "deep", TX13, 46, false, rfl, rfl, by decide, rfl, List.mem_filter.mpr ⟨List.mem_of_getElem? (i := 1440) (by decide +kernel), by decide +kernel⟩, rfl⟩
theorem lk_X13_207 : g_lk RX13 207 13 13 0 "I" := ⟨RX13, "label", TX13, 46, false, rfl, rfl, by decide, rfl, List.mem_filter.mpr ⟨List.mem_of_getElem? (i := 1441) (by decide +kernel), by decide +kernel⟩, rfl⟩
theorem lk_X13_210 : g_lk RX13 210 13 14 0 "I" := ⟨RX13, "found", TX13, 46, false, rfl, rfl, by decide, rfl, List.mem_filter.mpr ⟨List.mem_of_getElem? (i := 1442) (by decide +kernel), by decide +kernel⟩, rfl⟩
theorem lk_X13_28 : g_lkF RX13 28 13 15 2 "Ljava/lang/String;" := ⟨RX13, "labels", TX13, 46, rfl, rfl, by decide, rfl, List.mem_filter.mpr ⟨List.mem_of_getElem? (i := 1443) (by decide +kernel), by decide +kernel⟩⟩
theorem lk_X13_34 : g_lkF RX13 34 13 16 2 "Ljava/lang/String;" := ⟨RX13, "allowed", TX13, 46, rfl, rfl, by decide, rfl, List.mem_filter.mpr ⟨List.mem_of_getElem? (i := 1444) (by decide +kernel), by decide +kernel⟩⟩
theorem lk_X13_203 : g_lk RX13 203 13 17 0 "Z" := ⟨RX13, "hasFound", TX13, 46, false, rfl, rfl, by decide, rfl, List.mem_filter.mpr ⟨List.mem_of_getElem? (i := 1445) (by decide +kernel), by decide +kernel⟩, rfl⟩
theorem lk_X13_37 : g_lkF RX13 37 13 18 2 "[I" := ⟨RX13, "leaf", TX13, 46, rfl, rfl, by decide, rfl, List.mem_filter.mpr ⟨List.mem_of_getElem? (i := 1446) (by decide +kernel), by decide +kernel⟩⟩
theorem lk_X13_40 : g_lkF RX13 40 13 19 2 "[I" := ⟨RX13, "fork", TX13, 46, rfl, rfl, by decide, rfl, List.mem_filter.mpr ⟨List.mem_of_getElem? (i := 1447) (by decide +kernel), by decide +kernel⟩⟩
theorem lk_X13_43 : g_lkF RX13 43 13 20 2 "[I" := ⟨RX13, "branch", TX13, 46, rfl, rfl, by decide, rfl, List.mem_filter.mpr ⟨List.mem_of_getElem? (i := 1448) (by decide +kernel), by decide +kernel⟩⟩
theorem lk_X13_46 : g_lkF RX13 46 13 21 2 "[I" := ⟨RX13, "leafMany", TX13, 46, rfl, rfl, by decide, rfl, List.mem_filter.mpr ⟨List.mem_of_getElem? (i := 1449) (by decide +kernel), by decide +kernel⟩⟩
theorem lk_X13_49 : g_lkF RX13 49 13 22 2 "[I" := ⟨RX13, "forkMany", TX13, 46, rfl, rfl, by decide, rfl, List.mem_filter.mpr ⟨List.mem_of_getElem? (i := 1450) (by decide +kernel), by decide +kernel⟩⟩
theorem lk_X13_281 : g_lk RX13 281 13 23 0 "I" := ⟨RX13, "lives", TX13, 46, false, rfl, rfl, by decide, rfl, List.mem_filter.mpr ⟨List.mem_of_getElem? (i := 1451) (by decide +kernel), by decide +kernel⟩, rfl⟩
theorem lk_X13_52 : g_lk RX13 52 13 24 0 "I" := ⟨RX13, "table", TX13, 46, false, rfl, rfl, by decide, rfl, List.mem_filter.mpr ⟨List.mem_of_getElem? (i := 1452) (by decide +kernel), by decide +kernel⟩, rfl⟩
theorem lk_X13_56 : g_lkF RX13 56 13 25 2 "[Z" := ⟨RX13, "isOpen", TX13, 46, rfl, rfl, by decide, rfl, List.mem_filter.mpr ⟨List.mem_of_getElem? (i := 1453) (by decide +kernel), by decide +kernel⟩⟩
theorem lk_X13_60 : g_lkF RX13 60 13 26 2 "[I" := ⟨RX13, "told", TX13, 46, rfl, rfl, by decide, rfl, List.mem_filter.mpr ⟨List.mem_of_getElem? (i := 1454) (by decide +kernel), by decide +kernel⟩⟩
theorem lk_X13_63 : g_lkF RX13 63 13 27 2 "[I" := ⟨RX13, "wayFork", TX13, 46, rfl, rfl, by decide, rfl, List.mem_filter.mpr ⟨List.mem_of_getElem? (i := 1455) (by decide +kernel), by decide +kernel⟩⟩
theorem lk_X13_66 : g_lkF RX13 66 13 28 2 "[I" := ⟨RX13, "wayBranch", TX13, 46, rfl, rfl, by decide, rfl, List.mem_filter.mpr ⟨List.mem_of_getElem? (i := 1456) (by decide +kernel), by decide +kernel⟩⟩
theorem lk_X13_307 : g_lk RX13 307 13 29 0 "I" := ⟨RX13, "wayLong", TX13, 46, false, rfl, rfl, by decide, rfl, List.mem_filter.mpr ⟨List.mem_of_getElem? (i := 1457) (by decide +kernel), by decide +kernel⟩, rfl⟩
theorem lk_X13_69 : g_lkF RX13 69 13 30 2 "[Z" := ⟨RX13, "undoOpen", TX13, 46, rfl, rfl, by decide, rfl, List.mem_filter.mpr ⟨List.mem_of_getElem? (i := 1458) (by decide +kernel), by decide +kernel⟩⟩
theorem lk_X13_72 : g_lkF RX13 72 13 31 2 "[I" := ⟨RX13, "undoTold", TX13, 46, rfl, rfl, by decide, rfl, List.mem_filter.mpr ⟨List.mem_of_getElem? (i := 1459) (by decide +kernel), by decide +kernel⟩⟩
theorem lk_X13_292 : g_lk RX13 292 13 32 0 "I" := ⟨RX13, "acts", TX13, 46, false, rfl, rfl, by decide, rfl, List.mem_filter.mpr ⟨List.mem_of_getElem? (i := 1460) (by decide +kernel), by decide +kernel⟩, rfl⟩
theorem lk_X13_75 : g_lkF RX13 75 13 33 2 "[I" := ⟨RX13, "demandRow", TX13, 46, rfl, rfl, by decide, rfl, List.mem_filter.mpr ⟨List.mem_of_getElem? (i := 1461) (by decide +kernel), by decide +kernel⟩⟩
theorem lk_X13_78 : g_lkF RX13 78 13 34 2 "[I" := ⟨RX13, "factRow", TX13, 46, rfl, rfl, by decide, rfl, List.mem_filter.mpr ⟨List.mem_of_getElem? (i := 1462) (by decide +kernel), by decide +kernel⟩⟩
theorem lk_X13_81 : g_lkF RX13 81 13 35 2 "[I" := ⟨RX13, "clueKind", TX13, 46, rfl, rfl, by decide, rfl, List.mem_filter.mpr ⟨List.mem_of_getElem? (i := 1463) (by decide +kernel), by decide +kernel⟩⟩
theorem lk_X13_84 : g_lkF RX13 84 13 36 2 "[I" := ⟨RX13, "clueU", TX13, 46, rfl, rfl, by decide, rfl, List.mem_filter.mpr ⟨List.mem_of_getElem? (i := 1464) (by decide +kernel), by decide +kernel⟩⟩
theorem lk_X13_87 : g_lkF RX13 87 13 37 2 "[I" := ⟨RX13, "clueV", TX13, 46, rfl, rfl, by decide, rfl, List.mem_filter.mpr ⟨List.mem_of_getElem? (i := 1465) (by decide +kernel), by decide +kernel⟩⟩
theorem lk_X13_295 : g_lk RX13 295 13 38 0 "I" := ⟨RX13, "clues", TX13, 46, false, rfl, rfl, by decide, rfl, List.mem_filter.mpr ⟨List.mem_of_getElem? (i := 1466) (by decide +kernel), by decide +kernel⟩, rfl⟩
theorem lk_X13_90 : g_lkF RX13 90 13 39 2 "[Z" := ⟨RX13, "keptOpen", TX13, 46, rfl, rfl, by decide, rfl, List.mem_filter.mpr ⟨List.mem_of_getElem? (i := 1467) (by decide +kernel), by decide +kernel⟩⟩
theorem lk_X13_93 : g_lkF RX13 93 13 40 2 "[I" := ⟨RX13, "born", TX13, 46, rfl, rfl, by decide, rfl, List.mem_filter.mpr ⟨List.mem_of_getElem? (i := 1468) (by decide +kernel), by decide +kernel⟩⟩
theorem lk_X13_298 : g_lk RX13 298 13 41 0 "I" := ⟨RX13, "births", TX13, 46, false, rfl, rfl, by decide, rfl, List.mem_filter.mpr ⟨List.mem_of_getElem? (i := 1469) (by decide +kernel), by decide +kernel⟩, rfl⟩
theorem lk_X13_454 : g_lk RX13 454 13 42 1 "J" := ⟨RX13, "x", TX13, 46, false, rfl, rfl, by decide, rfl, List.mem_filter.mpr ⟨List.mem_of_getElem? (i := 1470) (by decide +kernel), by decide +kernel⟩, rfl⟩
theorem lk_X13_96 : g_lkF RX13 96 13 43 2 "[Z" := ⟨RX13, "imageOpen", TX13, 46, rfl, rfl, by decide, rfl, List.mem_filter.mpr ⟨List.mem_of_getElem? (i := 1471) (by decide +kernel), by decide +kernel⟩⟩
theorem lk_X13_99 : g_lkF RX13 99 13 44 2 "[I" := ⟨RX13, "imageTold", TX13, 46, rfl, rfl, by decide, rfl, List.mem_filter.mpr ⟨List.mem_of_getElem? (i := 1472) (by decide +kernel), by decide +kernel⟩⟩
theorem lk_X13_301 : g_lk RX13 301 13 45 0 "Z" := ⟨RX13, "hasImage", TX13, 46, false, rfl, rfl, by decide, rfl, List.mem_filter.mpr ⟨List.mem_of_getElem? (i := 1473) (by decide +kernel), by decide +kernel⟩, rfl⟩
theorem lm_L_48 : Cond.methodLink RL 48 yX13_thrown ∈ g_tb := List.mem_filter.mpr ⟨List.mem_of_getElem? (i := 1568) (by decide +kernel), by decide +kernel⟩
theorem lm_L_23 : Cond.methodLink RL 23 yX13_feed ∈ g_tb := List.mem_filter.mpr ⟨List.mem_of_getElem? (i := 1572) (by decide +kernel), by decide +kernel⟩
theorem lm_X13_117 : Cond.methodLink RX13 117 yX13_bytesIn ∈ g_tb := List.mem_filter.mpr ⟨List.mem_of_getElem? (i := 1576) (by decide +kernel), by decide +kernel⟩
theorem lm_X13_121 : Cond.methodLink RX13 121 yX13_put ∈ g_tb := List.mem_filter.mpr ⟨List.mem_of_getElem? (i := 1579) (by decide +kernel), by decide +kernel⟩
theorem lm_L_28 : Cond.methodLink RL 28 yX13_end ∈ g_tb := List.mem_filter.mpr ⟨List.mem_of_getElem? (i := 1583) (by decide +kernel), by decide +kernel⟩
theorem lm_L_33 : Cond.methodLink RL 33 yX13_fault ∈ g_tb := List.mem_filter.mpr ⟨List.mem_of_getElem? (i := 1587) (by decide +kernel), by decide +kernel⟩
theorem lm_X13_231 : Cond.methodLink RX13 231 yX13_isIn ∈ g_tb := List.mem_filter.mpr ⟨List.mem_of_getElem? (i := 1591) (by decide +kernel), by decide +kernel⟩
theorem lm_X13_275 : Cond.methodLink RX13 275 yX13_readLife ∈ g_tb := List.mem_filter.mpr ⟨List.mem_of_getElem? (i := 1594) (by decide +kernel), by decide +kernel⟩
theorem lm_X13_213 : Cond.methodLink RX13 213 yX13_opens ∈ g_tb := List.mem_filter.mpr ⟨List.mem_of_getElem? (i := 1598) (by decide +kernel), by decide +kernel⟩
theorem lm_X13_272 : Cond.methodLink RX13 272 yX13_readNode ∈ g_tb := List.mem_filter.mpr ⟨List.mem_of_getElem? (i := 1602) (by decide +kernel), by decide +kernel⟩
theorem lm_X13_144 : Cond.methodLink RX13 144 yX13_look ∈ g_tb := List.mem_filter.mpr ⟨List.mem_of_getElem? (i := 1606) (by decide +kernel), by decide +kernel⟩
theorem lm_X13_235 : Cond.methodLink RX13 235 yX13_leafAt ∈ g_tb := List.mem_filter.mpr ⟨List.mem_of_getElem? (i := 1610) (by decide +kernel), by decide +kernel⟩
theorem lm_X13_245 : Cond.methodLink RX13 245 yX13_readItems ∈ g_tb := List.mem_filter.mpr ⟨List.mem_of_getElem? (i := 1617) (by decide +kernel), by decide +kernel⟩
theorem lm_X13_220 : Cond.methodLink RX13 220 yX13_placeOf ∈ g_tb := List.mem_filter.mpr ⟨List.mem_of_getElem? (i := 1621) (by decide +kernel), by decide +kernel⟩
theorem lm_X13_105 : Cond.methodLink RX13 105 yJ0_length_8abf5 ∈ g_tb := List.mem_filter.mpr ⟨List.mem_of_getElem? (i := 1624) (by decide +kernel), by decide +kernel⟩
theorem lm_X13_111 : Cond.methodLink RX13 111 yJ0_charAt_5068e ∈ g_tb := List.mem_filter.mpr ⟨List.mem_of_getElem? (i := 1625) (by decide +kernel), by decide +kernel⟩
theorem lm_J0_495 : Cond.methodLink RJ0 495 yJ1_charAt_3b067 ∈ g_tb := List.mem_filter.mpr ⟨List.mem_of_getElem? (i := 1629) (by decide +kernel), by decide +kernel⟩
theorem lm_J1_9 : Cond.methodLink RJ1 9 yJ0_checkIndex_df160 ∈ g_tb := List.mem_filter.mpr ⟨List.mem_of_getElem? (i := 1632) (by decide +kernel), by decide +kernel⟩
theorem lm_J0_1059 : Cond.methodLink RJ0 1059 yJ3_checkIndex_8e157 ∈ g_tb := List.mem_filter.mpr ⟨List.mem_of_getElem? (i := 1635) (by decide +kernel), by decide +kernel⟩
theorem lm_J0_498 : Cond.methodLink RJ0 498 yJ2_charAt_3b067 ∈ g_tb := List.mem_filter.mpr ⟨List.mem_of_getElem? (i := 1638) (by decide +kernel), by decide +kernel⟩
theorem lm_J2_67 : Cond.methodLink RJ2 67 yJ2_checkIndex_2214a ∈ g_tb := List.mem_filter.mpr ⟨List.mem_of_getElem? (i := 1641) (by decide +kernel), by decide +kernel⟩
theorem lm_J2_414 : Cond.methodLink RJ2 414 yJ0_checkIndex_df160 ∈ g_tb := List.mem_filter.mpr ⟨List.mem_of_getElem? (i := 1644) (by decide +kernel), by decide +kernel⟩
theorem lm_X13_224 : Cond.methodLink RX13 224 yX13_has ∈ g_tb := List.mem_filter.mpr ⟨List.mem_of_getElem? (i := 1645) (by decide +kernel), by decide +kernel⟩
theorem lm_X13_140 : Cond.methodLink RX13 140 yX13_fails ∈ g_tb := List.mem_filter.mpr ⟨List.mem_of_getElem? (i := 1648) (by decide +kernel), by decide +kernel⟩
theorem lm_X13_174 : Cond.methodLink RX13 174 yX13_isDigit ∈ g_tb := List.mem_filter.mpr ⟨List.mem_of_getElem? (i := 1652) (by decide +kernel), by decide +kernel⟩
theorem lm_X13_228 : Cond.methodLink RX13 228 yX13_here ∈ g_tb := List.mem_filter.mpr ⟨List.mem_of_getElem? (i := 1656) (by decide +kernel), by decide +kernel⟩
theorem lm_X13_249 : Cond.methodLink RX13 249 yX13_forkAt ∈ g_tb := List.mem_filter.mpr ⟨List.mem_of_getElem? (i := 1660) (by decide +kernel), by decide +kernel⟩
theorem lm_X13_258 : Cond.methodLink RX13 258 yX13_readBranches ∈ g_tb := List.mem_filter.mpr ⟨List.mem_of_getElem? (i := 1667) (by decide +kernel), by decide +kernel⟩
theorem lm_X13_262 : Cond.methodLink RX13 262 yX13_branchAt ∈ g_tb := List.mem_filter.mpr ⟨List.mem_of_getElem? (i := 1671) (by decide +kernel), by decide +kernel⟩
theorem lm_X13_278 : Cond.methodLink RX13 278 yX13_goThrough ∈ g_tb := List.mem_filter.mpr ⟨List.mem_of_getElem? (i := 1678) (by decide +kernel), by decide +kernel⟩
theorem lm_X13_217 : Cond.methodLink RX13 217 yX13_clause ∈ g_tb := List.mem_filter.mpr ⟨List.mem_of_getElem? (i := 1682) (by decide +kernel), by decide +kernel⟩
theorem lm_X13_160 : Cond.methodLink RX13 160 yX13_isAmong ∈ g_tb := List.mem_filter.mpr ⟨List.mem_of_getElem? (i := 1686) (by decide +kernel), by decide +kernel⟩
theorem lm_X13_170 : Cond.methodLink RX13 170 yX13_takes ∈ g_tb := List.mem_filter.mpr ⟨List.mem_of_getElem? (i := 1689) (by decide +kernel), by decide +kernel⟩
theorem lm_X13_193 : Cond.methodLink RX13 193 yX13_condition ∈ g_tb := List.mem_filter.mpr ⟨List.mem_of_getElem? (i := 1693) (by decide +kernel), by decide +kernel⟩
theorem lm_X13_200 : Cond.methodLink RX13 200 yX13_part ∈ g_tb := List.mem_filter.mpr ⟨List.mem_of_getElem? (i := 1697) (by decide +kernel), by decide +kernel⟩
theorem lm_X13_197 : Cond.methodLink RX13 197 yX13_compares ∈ g_tb := List.mem_filter.mpr ⟨List.mem_of_getElem? (i := 1701) (by decide +kernel), by decide +kernel⟩
theorem lm_X13_167 : Cond.methodLink RX13 167 yX13_sum ∈ g_tb := List.mem_filter.mpr ⟨List.mem_of_getElem? (i := 1705) (by decide +kernel), by decide +kernel⟩
theorem lm_X13_184 : Cond.methodLink RX13 184 yX13_term ∈ g_tb := List.mem_filter.mpr ⟨List.mem_of_getElem? (i := 1709) (by decide +kernel), by decide +kernel⟩
theorem lm_X13_177 : Cond.methodLink RX13 177 yX13_atom ∈ g_tb := List.mem_filter.mpr ⟨List.mem_of_getElem? (i := 1713) (by decide +kernel), by decide +kernel⟩
theorem lm_X13_164 : Cond.methodLink RX13 164 yX13_goesIn ∈ g_tb := List.mem_filter.mpr ⟨List.mem_of_getElem? (i := 1717) (by decide +kernel), by decide +kernel⟩
theorem lm_X13_180 : Cond.methodLink RX13 180 yX13_within ∈ g_tb := List.mem_filter.mpr ⟨List.mem_of_getElem? (i := 1721) (by decide +kernel), by decide +kernel⟩
theorem lc_X13_147 : Cond.constantLong RX13 147 (-1000000) ∈ g_tb := List.mem_filter.mpr ⟨List.mem_of_getElem? (i := 1724) (by decide +kernel), by decide +kernel⟩
theorem lc_X13_149 : Cond.constantLong RX13 149 (1000000) ∈ g_tb := List.mem_filter.mpr ⟨List.mem_of_getElem? (i := 1725) (by decide +kernel), by decide +kernel⟩
theorem lm_X13_151 : Cond.methodLink RX13 151 yJ9_min_f86c9 ∈ g_tb := List.mem_filter.mpr ⟨List.mem_of_getElem? (i := 1726) (by decide +kernel), by decide +kernel⟩
theorem lm_X13_157 : Cond.methodLink RX13 157 yJ9_max_f86c9 ∈ g_tb := List.mem_filter.mpr ⟨List.mem_of_getElem? (i := 1729) (by decide +kernel), by decide +kernel⟩
theorem lm_X13_187 : Cond.methodLink RX13 187 yX13_isSign ∈ g_tb := List.mem_filter.mpr ⟨List.mem_of_getElem? (i := 1732) (by decide +kernel), by decide +kernel⟩
theorem lm_X13_190 : Cond.methodLink RX13 190 yX13_unit ∈ g_tb := List.mem_filter.mpr ⟨List.mem_of_getElem? (i := 1735) (by decide +kernel), by decide +kernel⟩
theorem lm_L_37 : Cond.methodLink RL 37 yX13_text ∈ g_tb := List.mem_filter.mpr ⟨List.mem_of_getElem? (i := 1739) (by decide +kernel), by decide +kernel⟩
theorem lm_X13_287 : Cond.methodLink RX13 287 yX13_fault ∈ g_tb := List.mem_filter.mpr ⟨List.mem_of_getElem? (i := 1743) (by decide +kernel), by decide +kernel⟩
theorem lm_X13_289 : Cond.methodLink RX13 289 yX13_call ∈ g_tb := List.mem_filter.mpr ⟨List.mem_of_getElem? (i := 1744) (by decide +kernel), by decide +kernel⟩
theorem lm_L_41 : Cond.methodLink RL 41 yX13_call ∈ g_tb := List.mem_filter.mpr ⟨List.mem_of_getElem? (i := 1748) (by decide +kernel), by decide +kernel⟩
theorem lm_L_47 : Cond.methodLink RL 47 yX13_self ∈ g_tb := List.mem_filter.mpr ⟨List.mem_of_getElem? (i := 1749) (by decide +kernel), by decide +kernel⟩
theorem lm_X13_313 : Cond.methodLink RX13 313 yX13_isSelf ∈ g_tb := List.mem_filter.mpr ⟨List.mem_of_getElem? (i := 1753) (by decide +kernel), by decide +kernel⟩
theorem lc_X13_316 : Cond.constantLong RX13 316 (8) ∈ g_tb := List.mem_filter.mpr ⟨List.mem_of_getElem? (i := 1757) (by decide +kernel), by decide +kernel⟩
theorem lm_X13_318 : Cond.methodLink RX13 318 yX13_hasOf ∈ g_tb := List.mem_filter.mpr ⟨List.mem_of_getElem? (i := 1758) (by decide +kernel), by decide +kernel⟩
theorem lm_X13_310 : Cond.methodLink RX13 310 yX13_layWay ∈ g_tb := List.mem_filter.mpr ⟨List.mem_of_getElem? (i := 1762) (by decide +kernel), by decide +kernel⟩
theorem lm_X13_321 : Cond.methodLink RX13 321 yX13_factsOf ∈ g_tb := List.mem_filter.mpr ⟨List.mem_of_getElem? (i := 1766) (by decide +kernel), by decide +kernel⟩
theorem lm_X13_324 : Cond.methodLink RX13 324 yX13_isThere ∈ g_tb := List.mem_filter.mpr ⟨List.mem_of_getElem? (i := 1770) (by decide +kernel), by decide +kernel⟩
theorem lm_L_55 : Cond.methodLink RL 55 yX13_way ∈ g_tb := List.mem_filter.mpr ⟨List.mem_of_getElem? (i := 1774) (by decide +kernel), by decide +kernel⟩
theorem lm_L_59 : Cond.methodLink RL 59 yX13_fork ∈ g_tb := List.mem_filter.mpr ⟨List.mem_of_getElem? (i := 1778) (by decide +kernel), by decide +kernel⟩
theorem lm_X13_304 : Cond.methodLink RX13 304 yX13_isFork ∈ g_tb := List.mem_filter.mpr ⟨List.mem_of_getElem? (i := 1782) (by decide +kernel), by decide +kernel⟩
theorem lc_X13_327 : Cond.constantLong RX13 327 (5) ∈ g_tb := List.mem_filter.mpr ⟨List.mem_of_getElem? (i := 1786) (by decide +kernel), by decide +kernel⟩
theorem lm_X13_329 : Cond.methodLink RX13 329 yX13_openMany ∈ g_tb := List.mem_filter.mpr ⟨List.mem_of_getElem? (i := 1787) (by decide +kernel), by decide +kernel⟩
theorem lm_X13_332 : Cond.methodLink RX13 332 yX13_behind ∈ g_tb := List.mem_filter.mpr ⟨List.mem_of_getElem? (i := 1791) (by decide +kernel), by decide +kernel⟩
theorem lm_L_64 : Cond.methodLink RL 64 yX13_branch ∈ g_tb := List.mem_filter.mpr ⟨List.mem_of_getElem? (i := 1795) (by decide +kernel), by decide +kernel⟩
theorem lm_X13_335 : Cond.methodLink RX13 335 yX13_isBranch ∈ g_tb := List.mem_filter.mpr ⟨List.mem_of_getElem? (i := 1799) (by decide +kernel), by decide +kernel⟩
theorem lc_X13_338 : Cond.constantLong RX13 338 (6) ∈ g_tb := List.mem_filter.mpr ⟨List.mem_of_getElem? (i := 1803) (by decide +kernel), by decide +kernel⟩
theorem lm_L_68 : Cond.methodLink RL 68 yX13_part_ ∈ g_tb := List.mem_filter.mpr ⟨List.mem_of_getElem? (i := 1804) (by decide +kernel), by decide +kernel⟩
theorem lm_X13_340 : Cond.methodLink RX13 340 yX13_partOf ∈ g_tb := List.mem_filter.mpr ⟨List.mem_of_getElem? (i := 1808) (by decide +kernel), by decide +kernel⟩
theorem lm_L_73 : Cond.methodLink RL 73 yX13_open ∈ g_tb := List.mem_filter.mpr ⟨List.mem_of_getElem? (i := 1812) (by decide +kernel), by decide +kernel⟩
theorem lm_X13_343 : Cond.methodLink RX13 343 yX13_remember ∈ g_tb := List.mem_filter.mpr ⟨List.mem_of_getElem? (i := 1816) (by decide +kernel), by decide +kernel⟩
theorem lm_L_77 : Cond.methodLink RL 77 yX13_set ∈ g_tb := List.mem_filter.mpr ⟨List.mem_of_getElem? (i := 1820) (by decide +kernel), by decide +kernel⟩
theorem lc_X13_346 : Cond.constantLong RX13 346 (3) ∈ g_tb := List.mem_filter.mpr ⟨List.mem_of_getElem? (i := 1824) (by decide +kernel), by decide +kernel⟩
theorem lc_X13_348 : Cond.constantLong RX13 348 (-1) ∈ g_tb := List.mem_filter.mpr ⟨List.mem_of_getElem? (i := 1825) (by decide +kernel), by decide +kernel⟩
theorem lm_L_81 : Cond.methodLink RL 81 yX13_undo ∈ g_tb := List.mem_filter.mpr ⟨List.mem_of_getElem? (i := 1826) (by decide +kernel), by decide +kernel⟩
theorem lm_L_85 : Cond.methodLink RL 85 yX13_odds ∈ g_tb := List.mem_filter.mpr ⟨List.mem_of_getElem? (i := 1830) (by decide +kernel), by decide +kernel⟩
theorem lm_X13_364 : Cond.methodLink RX13 364 yX13_oddsOf ∈ g_tb := List.mem_filter.mpr ⟨List.mem_of_getElem? (i := 1834) (by decide +kernel), by decide +kernel⟩
theorem lc_X13_356 : Cond.constantLong RX13 356 (1000000000) ∈ g_tb := List.mem_filter.mpr ⟨List.mem_of_getElem? (i := 1838) (by decide +kernel), by decide +kernel⟩
theorem lm_X13_358 : Cond.methodLink RX13 358 yX13_weights ∈ g_tb := List.mem_filter.mpr ⟨List.mem_of_getElem? (i := 1839) (by decide +kernel), by decide +kernel⟩
theorem lm_X13_361 : Cond.methodLink RX13 361 yX13_choice ∈ g_tb := List.mem_filter.mpr ⟨List.mem_of_getElem? (i := 1843) (by decide +kernel), by decide +kernel⟩
theorem lm_X13_353 : Cond.methodLink RX13 353 yX13_ruleOf ∈ g_tb := List.mem_filter.mpr ⟨List.mem_of_getElem? (i := 1847) (by decide +kernel), by decide +kernel⟩
theorem lm_X13_350 : Cond.methodLink RX13 350 yX13_worthBy ∈ g_tb := List.mem_filter.mpr ⟨List.mem_of_getElem? (i := 1851) (by decide +kernel), by decide +kernel⟩
theorem lm_L_93 : Cond.methodLink RL 93 yX13_worth ∈ g_tb := List.mem_filter.mpr ⟨List.mem_of_getElem? (i := 1855) (by decide +kernel), by decide +kernel⟩
theorem lm_X13_373 : Cond.methodLink RX13 373 yX13_worthOf ∈ g_tb := List.mem_filter.mpr ⟨List.mem_of_getElem? (i := 1859) (by decide +kernel), by decide +kernel⟩
theorem lm_X13_370 : Cond.methodLink RX13 370 yX13_layLetters ∈ g_tb := List.mem_filter.mpr ⟨List.mem_of_getElem? (i := 1863) (by decide +kernel), by decide +kernel⟩
theorem lm_X13_367 : Cond.methodLink RX13 367 yX13_dead ∈ g_tb := List.mem_filter.mpr ⟨List.mem_of_getElem? (i := 1867) (by decide +kernel), by decide +kernel⟩
theorem lc_X13_376 : Cond.constant RX13 376 (-2000000000) ∈ g_tb := List.mem_filter.mpr ⟨List.mem_of_getElem? (i := 1871) (by decide +kernel), by decide +kernel⟩
theorem lm_L_89 : Cond.methodLink RL 89 yX13_mean ∈ g_tb := List.mem_filter.mpr ⟨List.mem_of_getElem? (i := 1872) (by decide +kernel), by decide +kernel⟩
theorem lm_L_97 : Cond.methodLink RL 97 yX13_value ∈ g_tb := List.mem_filter.mpr ⟨List.mem_of_getElem? (i := 1876) (by decide +kernel), by decide +kernel⟩
theorem lm_X13_379 : Cond.methodLink RX13 379 yX13_valueOf ∈ g_tb := List.mem_filter.mpr ⟨List.mem_of_getElem? (i := 1880) (by decide +kernel), by decide +kernel⟩
theorem lc_X13_377 : Cond.constantLong RX13 377 (100) ∈ g_tb := List.mem_filter.mpr ⟨List.mem_of_getElem? (i := 1884) (by decide +kernel), by decide +kernel⟩
theorem lm_X13_383 : Cond.methodLink RX13 383 yX13_behindOf ∈ g_tb := List.mem_filter.mpr ⟨List.mem_of_getElem? (i := 1885) (by decide +kernel), by decide +kernel⟩
theorem lm_L_101 : Cond.methodLink RL 101 yX13_advice ∈ g_tb := List.mem_filter.mpr ⟨List.mem_of_getElem? (i := 1889) (by decide +kernel), by decide +kernel⟩
theorem lm_L_105 : Cond.methodLink RL 105 yX13_regret ∈ g_tb := List.mem_filter.mpr ⟨List.mem_of_getElem? (i := 1893) (by decide +kernel), by decide +kernel⟩
theorem lm_X13_387 : Cond.methodLink RX13 387 yX13_branchOn ∈ g_tb := List.mem_filter.mpr ⟨List.mem_of_getElem? (i := 1897) (by decide +kernel), by decide +kernel⟩
theorem lm_X13_390 : Cond.methodLink RX13 390 yX13_regretOf ∈ g_tb := List.mem_filter.mpr ⟨List.mem_of_getElem? (i := 1901) (by decide +kernel), by decide +kernel⟩
theorem lm_L_109 : Cond.methodLink RL 109 yX13_sore ∈ g_tb := List.mem_filter.mpr ⟨List.mem_of_getElem? (i := 1905) (by decide +kernel), by decide +kernel⟩
theorem lm_X13_393 : Cond.methodLink RX13 393 yX13_regretsOf ∈ g_tb := List.mem_filter.mpr ⟨List.mem_of_getElem? (i := 1909) (by decide +kernel), by decide +kernel⟩
theorem lm_L_113 : Cond.methodLink RL 113 yX13_apology ∈ g_tb := List.mem_filter.mpr ⟨List.mem_of_getElem? (i := 1913) (by decide +kernel), by decide +kernel⟩
theorem lm_L_117 : Cond.methodLink RL 117 yX13_share ∈ g_tb := List.mem_filter.mpr ⟨List.mem_of_getElem? (i := 1917) (by decide +kernel), by decide +kernel⟩
theorem lc_X13_399 : Cond.constantLong RX13 399 (9999) ∈ g_tb := List.mem_filter.mpr ⟨List.mem_of_getElem? (i := 1921) (by decide +kernel), by decide +kernel⟩
theorem lm_X13_401 : Cond.methodLink RX13 401 yX13_weightOf ∈ g_tb := List.mem_filter.mpr ⟨List.mem_of_getElem? (i := 1922) (by decide +kernel), by decide +kernel⟩
theorem lm_X13_396 : Cond.methodLink RX13 396 yX13_isLaw ∈ g_tb := List.mem_filter.mpr ⟨List.mem_of_getElem? (i := 1926) (by decide +kernel), by decide +kernel⟩
theorem lm_L_121 : Cond.methodLink RL 121 yX13_demand ∈ g_tb := List.mem_filter.mpr ⟨List.mem_of_getElem? (i := 1930) (by decide +kernel), by decide +kernel⟩
theorem lm_X13_404 : Cond.methodLink RX13 404 yX13_demandOf ∈ g_tb := List.mem_filter.mpr ⟨List.mem_of_getElem? (i := 1934) (by decide +kernel), by decide +kernel⟩
theorem lm_L_125 : Cond.methodLink RL 125 yX13_terms ∈ g_tb := List.mem_filter.mpr ⟨List.mem_of_getElem? (i := 1938) (by decide +kernel), by decide +kernel⟩
theorem lm_X13_407 : Cond.methodLink RX13 407 yX13_demands ∈ g_tb := List.mem_filter.mpr ⟨List.mem_of_getElem? (i := 1942) (by decide +kernel), by decide +kernel⟩
theorem lm_L_129 : Cond.methodLink RL 129 yX13_away ∈ g_tb := List.mem_filter.mpr ⟨List.mem_of_getElem? (i := 1946) (by decide +kernel), by decide +kernel⟩
theorem lm_X13_410 : Cond.methodLink RX13 410 yX13_thereBits ∈ g_tb := List.mem_filter.mpr ⟨List.mem_of_getElem? (i := 1950) (by decide +kernel), by decide +kernel⟩
theorem lm_X13_413 : Cond.methodLink RX13 413 yJ6_bitCount_0f7a4 ∈ g_tb := List.mem_filter.mpr ⟨List.mem_of_getElem? (i := 1954) (by decide +kernel), by decide +kernel⟩
theorem lm_L_133 : Cond.methodLink RL 133 yX13_elected ∈ g_tb := List.mem_filter.mpr ⟨List.mem_of_getElem? (i := 1955) (by decide +kernel), by decide +kernel⟩
theorem lm_X13_418 : Cond.methodLink RX13 418 yX13_isVoter ∈ g_tb := List.mem_filter.mpr ⟨List.mem_of_getElem? (i := 1959) (by decide +kernel), by decide +kernel⟩
theorem lm_X13_421 : Cond.methodLink RX13 421 yX13_motionFor ∈ g_tb := List.mem_filter.mpr ⟨List.mem_of_getElem? (i := 1963) (by decide +kernel), by decide +kernel⟩
theorem lm_L_137 : Cond.methodLink RL 137 yX13_duel ∈ g_tb := List.mem_filter.mpr ⟨List.mem_of_getElem? (i := 1967) (by decide +kernel), by decide +kernel⟩
theorem lm_X13_427 : Cond.methodLink RX13 427 yX13_isTaste ∈ g_tb := List.mem_filter.mpr ⟨List.mem_of_getElem? (i := 1971) (by decide +kernel), by decide +kernel⟩
theorem lm_X13_430 : Cond.methodLink RX13 430 yX13_duelOf ∈ g_tb := List.mem_filter.mpr ⟨List.mem_of_getElem? (i := 1975) (by decide +kernel), by decide +kernel⟩
theorem lm_X13_424 : Cond.methodLink RX13 424 yJ6_signum_0f7a4 ∈ g_tb := List.mem_filter.mpr ⟨List.mem_of_getElem? (i := 1979) (by decide +kernel), by decide +kernel⟩
theorem lm_L_141 : Cond.methodLink RL 141 yX13_beats ∈ g_tb := List.mem_filter.mpr ⟨List.mem_of_getElem? (i := 1982) (by decide +kernel), by decide +kernel⟩
theorem lm_L_145 : Cond.methodLink RL 145 yX13_ring ∈ g_tb := List.mem_filter.mpr ⟨List.mem_of_getElem? (i := 1986) (by decide +kernel), by decide +kernel⟩
theorem lm_L_149 : Cond.methodLink RL 149 yX13_all ∈ g_tb := List.mem_filter.mpr ⟨List.mem_of_getElem? (i := 1990) (by decide +kernel), by decide +kernel⟩
theorem lm_L_153 : Cond.methodLink RL 153 yX13_telling ∈ g_tb := List.mem_filter.mpr ⟨List.mem_of_getElem? (i := 1994) (by decide +kernel), by decide +kernel⟩
theorem lm_X13_433 : Cond.methodLink RX13 433 yX13_layFacts ∈ g_tb := List.mem_filter.mpr ⟨List.mem_of_getElem? (i := 1998) (by decide +kernel), by decide +kernel⟩
theorem lm_L_157 : Cond.methodLink RL 157 yX13_twins ∈ g_tb := List.mem_filter.mpr ⟨List.mem_of_getElem? (i := 2002) (by decide +kernel), by decide +kernel⟩
theorem lm_L_161 : Cond.methodLink RL 161 yX13_sentence ∈ g_tb := List.mem_filter.mpr ⟨List.mem_of_getElem? (i := 2006) (by decide +kernel), by decide +kernel⟩
theorem lm_L_165 : Cond.methodLink RL 165 yX13_leads ∈ g_tb := List.mem_filter.mpr ⟨List.mem_of_getElem? (i := 2010) (by decide +kernel), by decide +kernel⟩
theorem lc_X13_436 : Cond.constantLong RX13 436 (9) ∈ g_tb := List.mem_filter.mpr ⟨List.mem_of_getElem? (i := 2014) (by decide +kernel), by decide +kernel⟩
theorem lm_L_169 : Cond.methodLink RL 169 yX13_clue ∈ g_tb := List.mem_filter.mpr ⟨List.mem_of_getElem? (i := 2015) (by decide +kernel), by decide +kernel⟩
theorem lc_X13_438 : Cond.constantLong RX13 438 (99) ∈ g_tb := List.mem_filter.mpr ⟨List.mem_of_getElem? (i := 2019) (by decide +kernel), by decide +kernel⟩
theorem lm_L_173 : Cond.methodLink RL 173 yX13_can ∈ g_tb := List.mem_filter.mpr ⟨List.mem_of_getElem? (i := 2020) (by decide +kernel), by decide +kernel⟩
theorem lm_X13_440 : Cond.methodLink RX13 440 yX13_isSo ∈ g_tb := List.mem_filter.mpr ⟨List.mem_of_getElem? (i := 2024) (by decide +kernel), by decide +kernel⟩
theorem lm_L_177 : Cond.methodLink RL 177 yX13_cross ∈ g_tb := List.mem_filter.mpr ⟨List.mem_of_getElem? (i := 2028) (by decide +kernel), by decide +kernel⟩
theorem lm_X13_447 : Cond.methodLink RX13 447 yX13_isCode ∈ g_tb := List.mem_filter.mpr ⟨List.mem_of_getElem? (i := 2032) (by decide +kernel), by decide +kernel⟩
theorem lm_X13_450 : Cond.methodLink RX13 450 yX13_crossOf ∈ g_tb := List.mem_filter.mpr ⟨List.mem_of_getElem? (i := 2036) (by decide +kernel), by decide +kernel⟩
theorem lm_X13_443 : Cond.methodLink RX13 443 yX13_hasIn ∈ g_tb := List.mem_filter.mpr ⟨List.mem_of_getElem? (i := 2040) (by decide +kernel), by decide +kernel⟩
theorem lm_L_181 : Cond.methodLink RL 181 yX13_meetings ∈ g_tb := List.mem_filter.mpr ⟨List.mem_of_getElem? (i := 2044) (by decide +kernel), by decide +kernel⟩
theorem lm_L_188 : Cond.methodLink RL 188 yX13_birthday ∈ g_tb := List.mem_filter.mpr ⟨List.mem_of_getElem? (i := 2048) (by decide +kernel), by decide +kernel⟩
theorem lm_X13_469 : Cond.methodLink RX13 469 yX13_goBirth ∈ g_tb := List.mem_filter.mpr ⟨List.mem_of_getElem? (i := 2052) (by decide +kernel), by decide +kernel⟩
theorem lm_X13_465 : Cond.methodLink RX13 465 yX13_drawnAt ∈ g_tb := List.mem_filter.mpr ⟨List.mem_of_getElem? (i := 2056) (by decide +kernel), by decide +kernel⟩
theorem lm_X13_462 : Cond.methodLink RX13 462 yX13_draw ∈ g_tb := List.mem_filter.mpr ⟨List.mem_of_getElem? (i := 2060) (by decide +kernel), by decide +kernel⟩
theorem lc_X13_458 : Cond.constantLong RX13 458 (6364136223846793005) ∈ g_tb := List.mem_filter.mpr ⟨List.mem_of_getElem? (i := 2064) (by decide +kernel), by decide +kernel⟩
theorem lc_X13_460 : Cond.constantLong RX13 460 (1442695040888963407) ∈ g_tb := List.mem_filter.mpr ⟨List.mem_of_getElem? (i := 2065) (by decide +kernel), by decide +kernel⟩
theorem lm_L_192 : Cond.methodLink RL 192 yX13_born ∈ g_tb := List.mem_filter.mpr ⟨List.mem_of_getElem? (i := 2066) (by decide +kernel), by decide +kernel⟩
theorem lm_L_196 : Cond.methodLink RL 196 yX13_take ∈ g_tb := List.mem_filter.mpr ⟨List.mem_of_getElem? (i := 2070) (by decide +kernel), by decide +kernel⟩
theorem lm_L_201 : Cond.methodLink RL 201 yX13_town ∈ g_tb := List.mem_filter.mpr ⟨List.mem_of_getElem? (i := 2074) (by decide +kernel), by decide +kernel⟩
theorem lm_L_205 : Cond.methodLink RL 205 yX13_image ∈ g_tb := List.mem_filter.mpr ⟨List.mem_of_getElem? (i := 2078) (by decide +kernel), by decide +kernel⟩
theorem lm_L_209 : Cond.methodLink RL 209 yX13_back ∈ g_tb := List.mem_filter.mpr ⟨List.mem_of_getElem? (i := 2082) (by decide +kernel), by decide +kernel⟩
theorem lm_L_213 : Cond.methodLink RL 213 yX13_count ∈ g_tb := List.mem_filter.mpr ⟨List.mem_of_getElem? (i := 2086) (by decide +kernel), by decide +kernel⟩
theorem lc_L_182 : Cond.constantLong RL 182 (4294967295) ∈ g_tb := List.mem_filter.mpr ⟨List.mem_of_getElem? (i := 2090) (by decide +kernel), by decide +kernel⟩
/-- concrete cells -/
theorem ca_0 : g_at g_n 0 (.inl 12) := ⟨by decide, by decide +kernel⟩
theorem ca_1 : g_at g_n 1 (.inl 8) := ⟨by decide, by decide +kernel⟩
theorem ca_538 : g_at g_n 538 (.inl 5) := ⟨by decide, by decide +kernel⟩
theorem ca_539 : g_at g_n 539 (.inl 3) := ⟨by decide, by decide +kernel⟩
theorem ca_541 : g_at g_n 541 (.inl 3) := ⟨by decide, by decide +kernel⟩
theorem ca_543 : g_at g_n 543 (.inl 3) := ⟨by decide, by decide +kernel⟩
theorem ca_547 : g_at g_n 547 (.inl 10) := ⟨by decide, by decide +kernel⟩
theorem ca_548 : g_at g_n 548 (.inl 7) := ⟨by decide, by decide +kernel⟩
theorem ca_549 : g_at g_n 549 (.inl 6) := ⟨by decide, by decide +kernel⟩
theorem ca_683 : g_at g_n 683 (.inl 11) := ⟨by decide, by decide +kernel⟩
theorem ca_686 : g_at g_n 686 (.inl 1) := ⟨by decide, by decide +kernel⟩
theorem ca_697 : g_at g_n 697 (.inl 2) := ⟨by decide, by decide +kernel⟩
theorem ca_701 : g_at g_n 701 (.inl 0) := ⟨by decide, by decide +kernel⟩
theorem ca_703 : g_at g_n 703 (.inl 13) := ⟨by decide, by decide +kernel⟩
theorem ca_2 : g_at g_n 2 (.inr (0, 240)) := ⟨by decide, by decide +kernel⟩
theorem ca_3 : g_at g_n 3 (.inr (4, 4)) := ⟨by decide, by decide +kernel⟩
theorem ca_516 : g_at g_n 516 (.inr (5, 7)) := ⟨by decide, by decide +kernel⟩
theorem ca_540 : g_at g_n 540 (.inr (0, 5)) := ⟨by decide, by decide +kernel⟩
theorem ca_542 : g_at g_n 542 (.inr (0, 2)) := ⟨by decide, by decide +kernel⟩
theorem ca_544 : g_at g_n 544 (.inr (0, 5)) := ⟨by decide, by decide +kernel⟩
theorem ca_545 : g_at g_n 545 (.inr (0, 6)) := ⟨by decide, by decide +kernel⟩
theorem ca_546 : g_at g_n 546 (.inr (0, 6)) := ⟨by decide, by decide +kernel⟩
theorem ca_550 : g_at g_n 550 (.inr (0, 24)) := ⟨by decide, by decide +kernel⟩
theorem ca_551 : g_at g_n 551 (.inr (0, 24)) := ⟨by decide, by decide +kernel⟩
theorem ca_552 : g_at g_n 552 (.inr (0, 40)) := ⟨by decide, by decide +kernel⟩
theorem ca_553 : g_at g_n 553 (.inr (0, 40)) := ⟨by decide, by decide +kernel⟩
theorem ca_554 : g_at g_n 554 (.inr (0, 8)) := ⟨by decide, by decide +kernel⟩
theorem ca_684 : g_at g_n 684 (.inr (0, 12)) := ⟨by decide, by decide +kernel⟩
theorem ca_685 : g_at g_n 685 (.inr (0, 20)) := ⟨by decide, by decide +kernel⟩
theorem ca_687 : g_at g_n 687 (.inr (0, 12)) := ⟨by decide, by decide +kernel⟩
theorem ca_688 : g_at g_n 688 (.inr (0, 12)) := ⟨by decide, by decide +kernel⟩
theorem ca_689 : g_at g_n 689 (.inr (0, 6)) := ⟨by decide, by decide +kernel⟩
theorem ca_690 : g_at g_n 690 (.inr (3, 6)) := ⟨by decide, by decide +kernel⟩
theorem ca_698 : g_at g_n 698 (.inr (0, 12)) := ⟨by decide, by decide +kernel⟩
theorem ca_699 : g_at g_n 699 (.inr (0, 12)) := ⟨by decide, by decide +kernel⟩
theorem ca_700 : g_at g_n 700 (.inr (0, 12)) := ⟨by decide, by decide +kernel⟩
theorem ca_702 : g_at g_n 702 (.inr (0, 60)) := ⟨by decide, by decide +kernel⟩
theorem ca_704 : g_at g_n 704 (.inr (1, 240)) := ⟨by decide, by decide +kernel⟩
theorem ca_705 : g_at g_n 705 (.inr (1, 1440)) := ⟨by decide, by decide +kernel⟩
theorem ca_706 : g_at g_n 706 (.inr (0, 6)) := ⟨by decide, by decide +kernel⟩
theorem ca_707 : g_at g_n 707 (.inr (0, 128)) := ⟨by decide, by decide +kernel⟩
theorem ca_708 : g_at g_n 708 (.inr (0, 336)) := ⟨by decide, by decide +kernel⟩
theorem ca_709 : g_at g_n 709 (.inr (0, 360)) := ⟨by decide, by decide +kernel⟩
theorem ca_710 : g_at g_n 710 (.inr (0, 1728)) := ⟨by decide, by decide +kernel⟩
theorem ca_711 : g_at g_n 711 (.inr (0, 4)) := ⟨by decide, by decide +kernel⟩
theorem ca_712 : g_at g_n 712 (.inr (0, 4)) := ⟨by decide, by decide +kernel⟩
theorem ca_713 : g_at g_n 713 (.inr (2, 72)) := ⟨by decide, by decide +kernel⟩
theorem ca_714 : g_at g_n 714 (.inr (0, 4)) := ⟨by decide, by decide +kernel⟩
theorem ca_715 : g_at g_n 715 (.inr (0, 6)) := ⟨by decide, by decide +kernel⟩
theorem ca_716 : g_at g_n 716 (.inr (0, 6)) := ⟨by decide, by decide +kernel⟩
theorem ca_717 : g_at g_n 717 (.inr (2, 2880)) := ⟨by decide, by decide +kernel⟩
theorem ca_718 : g_at g_n 718 (.inr (0, 160)) := ⟨by decide, by decide +kernel⟩
theorem ca_719 : g_at g_n 719 (.inr (0, 12)) := ⟨by decide, by decide +kernel⟩
theorem ca_720 : g_at g_n 720 (.inr (0, 12)) := ⟨by decide, by decide +kernel⟩
theorem ca_721 : g_at g_n 721 (.inr (0, 12)) := ⟨by decide, by decide +kernel⟩
theorem ca_722 : g_at g_n 722 (.inr (0, 12)) := ⟨by decide, by decide +kernel⟩
theorem ca_723 : g_at g_n 723 (.inr (0, 12)) := ⟨by decide, by decide +kernel⟩
theorem ca_724 : g_at g_n 724 (.inr (2, 72)) := ⟨by decide, by decide +kernel⟩
theorem ca_725 : g_at g_n 725 (.inr (0, 60)) := ⟨by decide, by decide +kernel⟩
theorem ca_726 : g_at g_n 726 (.inr (2, 72)) := ⟨by decide, by decide +kernel⟩
theorem ca_727 : g_at g_n 727 (.inr (0, 4)) := ⟨by decide, by decide +kernel⟩
