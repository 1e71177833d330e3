theorem zk_L_9 : z_lk RL 9 zm_X8_init 0 := ⟨z_in 83 (by decide +kernel) (by decide +kernel), zn_X8, zw_X8_init, by decide +kernel, by decide +kernel, by decide⟩
theorem zk_X8_1 : Cond.methodLink RX8 1 Lib.objectInit ∈ z_tbl := z_in 86 (by decide +kernel) (by decide +kernel)
theorem zk_X7_3 : Cond.methodLink RX7 3 Lib.objectInit ∈ z_tbl := z_in 94 (by decide +kernel) (by decide +kernel)
theorem zf_X7_9 : z_fl RX7 9 7 0 0 := ⟨RX7, TX7, _, rfl, by decide, rfl, z_in 95 (by decide +kernel) (by decide +kernel)⟩
theorem zp_X7_9 : z_pl RX7 9 7 0 0 .int false := ⟨RX7, TX7, _, rfl, by decide, rfl, z_in 95 (by decide +kernel) (by decide +kernel), rfl, by decide +kernel, fun h => by first | rfl | cases h⟩
theorem zf_X2_29 : z_fl RX2 29 7 0 0 := ⟨RX7, TX7, _, rfl, by decide, rfl, z_in 96 (by decide +kernel) (by decide +kernel)⟩
theorem zp_X2_29 : z_pl RX2 29 7 0 0 .int false := ⟨RX7, TX7, _, rfl, by decide, rfl, z_in 96 (by decide +kernel) (by decide +kernel), rfl, by decide +kernel, fun h => by first | rfl | cases h⟩
theorem zf_X8_136 : z_fl RX8 136 7 0 0 := ⟨RX7, TX7, _, rfl, by decide, rfl, z_in 97 (by decide +kernel) (by decide +kernel)⟩
theorem zp_X8_136 : z_pl RX8 136 7 0 0 .int false := ⟨RX7, TX7, _, rfl, by decide, rfl, z_in 97 (by decide +kernel) (by decide +kernel), rfl, by decide +kernel, fun h => by first | rfl | cases h⟩
theorem zf_X7_15 : z_fl RX7 15 7 1 2 := ⟨RX7, TX7, _, rfl, by decide, rfl, z_in 98 (by decide +kernel) (by decide +kernel)⟩
theorem zp_X7_15 : z_pl RX7 15 7 1 2 (.array .int) true := ⟨RX7, TX7, _, rfl, by decide, rfl, z_in 98 (by decide +kernel) (by decide +kernel), rfl, by decide +kernel, fun h => by first | rfl | cases h⟩
theorem zf_X1_106 : z_fl RX1 106 7 1 2 := ⟨RX7, TX7, _, rfl, by decide, rfl, z_in 99 (by decide +kernel) (by decide +kernel)⟩
theorem zf_X7_19 : z_fl RX7 19 7 2 2 := ⟨RX7, TX7, _, rfl, by decide, rfl, z_in 100 (by decide +kernel) (by decide +kernel)⟩
theorem zp_X7_19 : z_pl RX7 19 7 2 2 (.array .int) true := ⟨RX7, TX7, _, rfl, by decide, rfl, z_in 100 (by decide +kernel) (by decide +kernel), rfl, by decide +kernel, fun h => by first | rfl | cases h⟩
theorem zf_X8_169 : z_fl RX8 169 7 2 2 := ⟨RX7, TX7, _, rfl, by decide, rfl, z_in 101 (by decide +kernel) (by decide +kernel)⟩
theorem zf_X1_109 : z_fl RX1 109 7 2 2 := ⟨RX7, TX7, _, rfl, by decide, rfl, z_in 102 (by decide +kernel) (by decide +kernel)⟩
theorem zf_X7_22 : z_fl RX7 22 7 3 2 := ⟨RX7, TX7, _, rfl, by decide, rfl, z_in 103 (by decide +kernel) (by decide +kernel)⟩
theorem zp_X7_22 : z_pl RX7 22 7 3 2 (.array .int) true := ⟨RX7, TX7, _, rfl, by decide, rfl, z_in 103 (by decide +kernel) (by decide +kernel), rfl, by decide +kernel, fun h => by first | rfl | cases h⟩
theorem zf_X8_165 : z_fl RX8 165 7 3 2 := ⟨RX7, TX7, _, rfl, by decide, rfl, z_in 104 (by decide +kernel) (by decide +kernel)⟩
theorem zf_X1_98 : z_fl RX1 98 7 3 2 := ⟨RX7, TX7, _, rfl, by decide, rfl, z_in 105 (by decide +kernel) (by decide +kernel)⟩
theorem zf_X7_25 : z_fl RX7 25 7 4 2 := ⟨RX7, TX7, _, rfl, by decide, rfl, z_in 106 (by decide +kernel) (by decide +kernel)⟩
theorem zp_X7_25 : z_pl RX7 25 7 4 2 (.array .int) true := ⟨RX7, TX7, _, rfl, by decide, rfl, z_in 106 (by decide +kernel) (by decide +kernel), rfl, by decide +kernel, fun h => by first | rfl | cases h⟩
theorem zf_X7_28 : z_fl RX7 28 7 5 0 := ⟨RX7, TX7, _, rfl, by decide, rfl, z_in 107 (by decide +kernel) (by decide +kernel)⟩
theorem zp_X7_28 : z_pl RX7 28 7 5 0 .int false := ⟨RX7, TX7, _, rfl, by decide, rfl, z_in 107 (by decide +kernel) (by decide +kernel), rfl, by decide +kernel, fun h => by first | rfl | cases h⟩
theorem zf_X1_125 : z_fl RX1 125 7 5 0 := ⟨RX7, TX7, _, rfl, by decide, rfl, z_in 108 (by decide +kernel) (by decide +kernel)⟩
theorem zp_X1_125 : z_pl RX1 125 7 5 0 .int false := ⟨RX7, TX7, _, rfl, by decide, rfl, z_in 108 (by decide +kernel) (by decide +kernel), rfl, by decide +kernel, fun h => by first | rfl | cases h⟩
theorem zf_X7_31 : z_fl RX7 31 7 6 0 := ⟨RX7, TX7, _, rfl, by decide, rfl, z_in 109 (by decide +kernel) (by decide +kernel)⟩
theorem zp_X7_31 : z_pl RX7 31 7 6 0 .int false := ⟨RX7, TX7, _, rfl, by decide, rfl, z_in 109 (by decide +kernel) (by decide +kernel), rfl, by decide +kernel, fun h => by first | rfl | cases h⟩
theorem zf_X3_33 : z_fl RX3 33 7 6 0 := ⟨RX7, TX7, _, rfl, by decide, rfl, z_in 110 (by decide +kernel) (by decide +kernel)⟩
theorem zp_X3_33 : z_pl RX3 33 7 6 0 .int false := ⟨RX7, TX7, _, rfl, by decide, rfl, z_in 110 (by decide +kernel) (by decide +kernel), rfl, by decide +kernel, fun h => by first | rfl | cases h⟩
theorem zf_X8_226 : z_fl RX8 226 7 6 0 := ⟨RX7, TX7, _, rfl, by decide, rfl, z_in 111 (by decide +kernel) (by decide +kernel)⟩
theorem zp_X8_226 : z_pl RX8 226 7 6 0 .int false := ⟨RX7, TX7, _, rfl, by decide, rfl, z_in 111 (by decide +kernel) (by decide +kernel), rfl, by decide +kernel, fun h => by first | rfl | cases h⟩
theorem zf_X7_34 : z_fl RX7 34 7 7 2 := ⟨RX7, TX7, _, rfl, by decide, rfl, z_in 112 (by decide +kernel) (by decide +kernel)⟩
theorem zp_X7_34 : z_pl RX7 34 7 7 2 (.array .int) true := ⟨RX7, TX7, _, rfl, by decide, rfl, z_in 112 (by decide +kernel) (by decide +kernel), rfl, by decide +kernel, fun h => by first | rfl | cases h⟩
theorem zf_X8_241 : z_fl RX8 241 7 7 2 := ⟨RX7, TX7, _, rfl, by decide, rfl, z_in 113 (by decide +kernel) (by decide +kernel)⟩
theorem zk_X1_3 : Cond.methodLink RX1 3 Lib.objectInit ∈ z_tbl := z_in 137 (by decide +kernel) (by decide +kernel)
theorem zf_X1_9 : z_fl RX1 9 1 0 2 := ⟨RX1, TX1, _, rfl, by decide, rfl, z_in 138 (by decide +kernel) (by decide +kernel)⟩
theorem zp_X1_9 : z_pl RX1 9 1 0 2 (.array .int) true := ⟨RX1, TX1, _, rfl, by decide, rfl, z_in 138 (by decide +kernel) (by decide +kernel), rfl, by decide +kernel, fun h => by first | rfl | cases h⟩
theorem zf_X1_15 : z_fl RX1 15 1 1 0 := ⟨RX1, TX1, _, rfl, by decide, rfl, z_in 139 (by decide +kernel) (by decide +kernel)⟩
theorem zp_X1_15 : z_pl RX1 15 1 1 0 .int false := ⟨RX1, TX1, _, rfl, by decide, rfl, z_in 139 (by decide +kernel) (by decide +kernel), rfl, by decide +kernel, fun h => by first | rfl | cases h⟩
theorem zf_X8_118 : z_fl RX8 118 1 1 0 := ⟨RX1, TX1, _, rfl, by decide, rfl, z_in 140 (by decide +kernel) (by decide +kernel)⟩
theorem zp_X8_118 : z_pl RX8 118 1 1 0 .int false := ⟨RX1, TX1, _, rfl, by decide, rfl, z_in 140 (by decide +kernel) (by decide +kernel), rfl, by decide +kernel, fun h => by first | rfl | cases h⟩
theorem zf_X1_19 : z_fl RX1 19 1 2 0 := ⟨RX1, TX1, _, rfl, by decide, rfl, z_in 141 (by decide +kernel) (by decide +kernel)⟩
theorem zp_X1_19 : z_pl RX1 19 1 2 0 .int false := ⟨RX1, TX1, _, rfl, by decide, rfl, z_in 141 (by decide +kernel) (by decide +kernel), rfl, by decide +kernel, fun h => by first | rfl | cases h⟩
theorem zf_X1_22 : z_fl RX1 22 1 3 2 := ⟨RX1, TX1, _, rfl, by decide, rfl, z_in 142 (by decide +kernel) (by decide +kernel)⟩
theorem zp_X1_22 : z_pl RX1 22 1 3 2 (.array .int) false := ⟨RX1, TX1, _, rfl, by decide, rfl, z_in 142 (by decide +kernel) (by decide +kernel), rfl, by decide +kernel, fun h => by first | rfl | cases h⟩
theorem zf_X1_25 : z_fl RX1 25 1 4 0 := ⟨RX1, TX1, _, rfl, by decide, rfl, z_in 143 (by decide +kernel) (by decide +kernel)⟩
theorem zp_X1_25 : z_pl RX1 25 1 4 0 .int false := ⟨RX1, TX1, _, rfl, by decide, rfl, z_in 143 (by decide +kernel) (by decide +kernel), rfl, by decide +kernel, fun h => by first | rfl | cases h⟩
theorem zf_X1_28 : z_fl RX1 28 1 5 2 := ⟨RX1, TX1, _, rfl, by decide, rfl, z_in 144 (by decide +kernel) (by decide +kernel)⟩
theorem zp_X1_28 : z_pl RX1 28 1 5 2 (.array .int) false := ⟨RX1, TX1, _, rfl, by decide, rfl, z_in 144 (by decide +kernel) (by decide +kernel), rfl, by decide +kernel, fun h => by first | rfl | cases h⟩
theorem zf_X1_31 : z_fl RX1 31 1 6 0 := ⟨RX1, TX1, _, rfl, by decide, rfl, z_in 145 (by decide +kernel) (by decide +kernel)⟩
theorem zp_X1_31 : z_pl RX1 31 1 6 0 .int false := ⟨RX1, TX1, _, rfl, by decide, rfl, z_in 145 (by decide +kernel) (by decide +kernel), rfl, by decide +kernel, fun h => by first | rfl | cases h⟩
theorem zf_X1_34 : z_fl RX1 34 1 7 2 := ⟨RX1, TX1, _, rfl, by decide, rfl, z_in 146 (by decide +kernel) (by decide +kernel)⟩
theorem zp_X1_34 : z_pl RX1 34 1 7 2 (.array .int) true := ⟨RX1, TX1, _, rfl, by decide, rfl, z_in 146 (by decide +kernel) (by decide +kernel), rfl, by decide +kernel, fun h => by first | rfl | cases h⟩
theorem zf_X1_37 : z_fl RX1 37 1 8 0 := ⟨RX1, TX1, _, rfl, by decide, rfl, z_in 147 (by decide +kernel) (by decide +kernel)⟩
theorem zp_X1_37 : z_pl RX1 37 1 8 0 .int false := ⟨RX1, TX1, _, rfl, by decide, rfl, z_in 147 (by decide +kernel) (by decide +kernel), rfl, by decide +kernel, fun h => by first | rfl | cases h⟩
theorem zk_X3_3 : Cond.methodLink RX3 3 Lib.objectInit ∈ z_tbl := z_in 172 (by decide +kernel) (by decide +kernel)
theorem zf_X3_12 : z_fl RX3 12 3 0 2 := ⟨RX3, TX3, _, rfl, by decide, rfl, z_in 175 (by decide +kernel) (by decide +kernel)⟩
theorem zp_X3_12 : z_pl RX3 12 3 0 2 (.object "UmpireLost$Yard") true := ⟨RX3, TX3, _, rfl, by decide, rfl, z_in 175 (by decide +kernel) (by decide +kernel), rfl, by decide +kernel, fun h => by first | rfl | cases h⟩
theorem zf_X8_164 : z_fl RX8 164 3 0 2 := ⟨RX3, TX3, _, rfl, by decide, rfl, z_in 176 (by decide +kernel) (by decide +kernel)⟩
theorem zf_X3_18 : z_fl RX3 18 3 1 2 := ⟨RX3, TX3, _, rfl, by decide, rfl, z_in 177 (by decide +kernel) (by decide +kernel)⟩
theorem zp_X3_18 : z_pl RX3 18 3 1 2 (.array .int) true := ⟨RX3, TX3, _, rfl, by decide, rfl, z_in 177 (by decide +kernel) (by decide +kernel), rfl, by decide +kernel, fun h => by first | rfl | cases h⟩
theorem zf_X8_232 : z_fl RX8 232 3 1 2 := ⟨RX3, TX3, _, rfl, by decide, rfl, z_in 178 (by decide +kernel) (by decide +kernel)⟩
theorem zf_X3_22 : z_fl RX3 22 3 2 0 := ⟨RX3, TX3, _, rfl, by decide, rfl, z_in 179 (by decide +kernel) (by decide +kernel)⟩
theorem zp_X3_22 : z_pl RX3 22 3 2 0 .int false := ⟨RX3, TX3, _, rfl, by decide, rfl, z_in 179 (by decide +kernel) (by decide +kernel), rfl, by decide +kernel, fun h => by first | rfl | cases h⟩
theorem zf_X8_154 : z_fl RX8 154 3 2 0 := ⟨RX3, TX3, _, rfl, by decide, rfl, z_in 180 (by decide +kernel) (by decide +kernel)⟩
theorem zp_X8_154 : z_pl RX8 154 3 2 0 .int false := ⟨RX3, TX3, _, rfl, by decide, rfl, z_in 180 (by decide +kernel) (by decide +kernel), rfl, by decide +kernel, fun h => by first | rfl | cases h⟩
theorem zf_X3_26 : z_fl RX3 26 3 3 0 := ⟨RX3, TX3, _, rfl, by decide, rfl, z_in 181 (by decide +kernel) (by decide +kernel)⟩
theorem zp_X3_26 : z_pl RX3 26 3 3 0 .int false := ⟨RX3, TX3, _, rfl, by decide, rfl, z_in 181 (by decide +kernel) (by decide +kernel), rfl, by decide +kernel, fun h => by first | rfl | cases h⟩
theorem zf_X8_157 : z_fl RX8 157 3 3 0 := ⟨RX3, TX3, _, rfl, by decide, rfl, z_in 182 (by decide +kernel) (by decide +kernel)⟩
theorem zp_X8_157 : z_pl RX8 157 3 3 0 .int false := ⟨RX3, TX3, _, rfl, by decide, rfl, z_in 182 (by decide +kernel) (by decide +kernel), rfl, by decide +kernel, fun h => by first | rfl | cases h⟩
theorem zk_X2_3 : Cond.methodLink RX2 3 Lib.objectInit ∈ z_tbl := z_in 197 (by decide +kernel) (by decide +kernel)
theorem zf_X2_9 : z_fl RX2 9 2 0 0 := ⟨RX2, TX2, _, rfl, by decide, rfl, z_in 198 (by decide +kernel) (by decide +kernel)⟩
theorem zp_X2_9 : z_pl RX2 9 2 0 0 .int false := ⟨RX2, TX2, _, rfl, by decide, rfl, z_in 198 (by decide +kernel) (by decide +kernel), rfl, by decide +kernel, fun h => by first | rfl | cases h⟩
theorem zf_X2_15 : z_fl RX2 15 2 1 2 := ⟨RX2, TX2, _, rfl, by decide, rfl, z_in 199 (by decide +kernel) (by decide +kernel)⟩
theorem zp_X2_15 : z_pl RX2 15 2 1 2 (.array .int) true := ⟨RX2, TX2, _, rfl, by decide, rfl, z_in 199 (by decide +kernel) (by decide +kernel), rfl, by decide +kernel, fun h => by first | rfl | cases h⟩
theorem zf_X2_19 : z_fl RX2 19 2 2 2 := ⟨RX2, TX2, _, rfl, by decide, rfl, z_in 200 (by decide +kernel) (by decide +kernel)⟩
theorem zp_X2_19 : z_pl RX2 19 2 2 2 (.array .long) true := ⟨RX2, TX2, _, rfl, by decide, rfl, z_in 200 (by decide +kernel) (by decide +kernel), rfl, by decide +kernel, fun h => by first | rfl | cases h⟩
theorem zf_X2_23 : z_fl RX2 23 2 3 2 := ⟨RX2, TX2, _, rfl, by decide, rfl, z_in 201 (by decide +kernel) (by decide +kernel)⟩
theorem zp_X2_23 : z_pl RX2 23 2 3 2 (.array .long) true := ⟨RX2, TX2, _, rfl, by decide, rfl, z_in 201 (by decide +kernel) (by decide +kernel), rfl, by decide +kernel, fun h => by first | rfl | cases h⟩
theorem zf_X2_26 : z_fl RX2 26 2 4 2 := ⟨RX2, TX2, _, rfl, by decide, rfl, z_in 202 (by decide +kernel) (by decide +kernel)⟩
theorem zp_X2_26 : z_pl RX2 26 2 4 2 (.array .int) true := ⟨RX2, TX2, _, rfl, by decide, rfl, z_in 202 (by decide +kernel) (by decide +kernel), rfl, by decide +kernel, fun h => by first | rfl | cases h⟩
theorem zk_X6_3 : Cond.methodLink RX6 3 Lib.objectInit ∈ z_tbl := z_in 220 (by decide +kernel) (by decide +kernel)
theorem zf_X6_12 : z_fl RX6 12 6 0 2 := ⟨RX6, TX6, _, rfl, by decide, rfl, z_in 223 (by decide +kernel) (by decide +kernel)⟩
theorem zp_X6_12 : z_pl RX6 12 6 0 2 (.object "UmpireLost$Yard") true := ⟨RX6, TX6, _, rfl, by decide, rfl, z_in 223 (by decide +kernel) (by decide +kernel), rfl, by decide +kernel, fun h => by first | rfl | cases h⟩
theorem zf_X6_18 : z_fl RX6 18 6 1 0 := ⟨RX6, TX6, _, rfl, by decide, rfl, z_in 224 (by decide +kernel) (by decide +kernel)⟩
theorem zp_X6_18 : z_pl RX6 18 6 1 0 .int false := ⟨RX6, TX6, _, rfl, by decide, rfl, z_in 224 (by decide +kernel) (by decide +kernel), rfl, by decide +kernel, fun h => by first | rfl | cases h⟩
theorem zf_X6_22 : z_fl RX6 22 6 2 0 := ⟨RX6, TX6, _, rfl, by decide, rfl, z_in 225 (by decide +kernel) (by decide +kernel)⟩
theorem zp_X6_22 : z_pl RX6 22 6 2 0 .int false := ⟨RX6, TX6, _, rfl, by decide, rfl, z_in 225 (by decide +kernel) (by decide +kernel), rfl, by decide +kernel, fun h => by first | rfl | cases h⟩
theorem zf_X6_25 : z_fl RX6 25 6 3 2 := ⟨RX6, TX6, _, rfl, by decide, rfl, z_in 226 (by decide +kernel) (by decide +kernel)⟩
theorem zp_X6_25 : z_pl RX6 25 6 3 2 (.array .int) true := ⟨RX6, TX6, _, rfl, by decide, rfl, z_in 226 (by decide +kernel) (by decide +kernel), rfl, by decide +kernel, fun h => by first | rfl | cases h⟩
theorem zk_X0_1 : Cond.methodLink RX0 1 Lib.objectInit ∈ z_tbl := z_in 241 (by decide +kernel) (by decide +kernel)
theorem zf_X0_9 : z_fl RX0 9 0 0 2 := ⟨RX0, TX0, _, rfl, by decide, rfl, z_in 242 (by decide +kernel) (by decide +kernel)⟩
theorem zp_X0_9 : z_pl RX0 9 0 0 2 (.array .int) true := ⟨RX0, TX0, _, rfl, by decide, rfl, z_in 242 (by decide +kernel) (by decide +kernel), rfl, by decide +kernel, fun h => by first | rfl | cases h⟩
theorem zf_X0_13 : z_fl RX0 13 0 1 2 := ⟨RX0, TX0, _, rfl, by decide, rfl, z_in 243 (by decide +kernel) (by decide +kernel)⟩
theorem zp_X0_13 : z_pl RX0 13 0 1 2 (.array .int) true := ⟨RX0, TX0, _, rfl, by decide, rfl, z_in 243 (by decide +kernel) (by decide +kernel), rfl, by decide +kernel, fun h => by first | rfl | cases h⟩
theorem zf_X0_16 : z_fl RX0 16 0 2 2 := ⟨RX0, TX0, _, rfl, by decide, rfl, z_in 244 (by decide +kernel) (by decide +kernel)⟩
theorem zp_X0_16 : z_pl RX0 16 0 2 2 (.array .int) true := ⟨RX0, TX0, _, rfl, by decide, rfl, z_in 244 (by decide +kernel) (by decide +kernel), rfl, by decide +kernel, fun h => by first | rfl | cases h⟩
theorem zf_X0_19 : z_fl RX0 19 0 3 2 := ⟨RX0, TX0, _, rfl, by decide, rfl, z_in 245 (by decide +kernel) (by decide +kernel)⟩
theorem zp_X0_19 : z_pl RX0 19 0 3 2 (.array .int) true := ⟨RX0, TX0, _, rfl, by decide, rfl, z_in 245 (by decide +kernel) (by decide +kernel), rfl, by decide +kernel, fun h => by first | rfl | cases h⟩
theorem zf_X0_22 : z_fl RX0 22 0 4 0 := ⟨RX0, TX0, _, rfl, by decide, rfl, z_in 246 (by decide +kernel) (by decide +kernel)⟩
theorem zp_X0_22 : z_pl RX0 22 0 4 0 .int false := ⟨RX0, TX0, _, rfl, by decide, rfl, z_in 246 (by decide +kernel) (by decide +kernel), rfl, by decide +kernel, fun h => by first | rfl | cases h⟩
theorem zf_X8_261 : z_fl RX8 261 0 4 0 := ⟨RX0, TX0, _, rfl, by decide, rfl, z_in 247 (by decide +kernel) (by decide +kernel)⟩
theorem zp_X8_261 : z_pl RX8 261 0 4 0 .int false := ⟨RX0, TX0, _, rfl, by decide, rfl, z_in 247 (by decide +kernel) (by decide +kernel), rfl, by decide +kernel, fun h => by first | rfl | cases h⟩
theorem zf_X0_26 : z_fl RX0 26 0 5 0 := ⟨RX0, TX0, _, rfl, by decide, rfl, z_in 248 (by decide +kernel) (by decide +kernel)⟩
theorem zp_X0_26 : z_pl RX0 26 0 5 0 .int false := ⟨RX0, TX0, _, rfl, by decide, rfl, z_in 248 (by decide +kernel) (by decide +kernel), rfl, by decide +kernel, fun h => by first | rfl | cases h⟩
theorem zf_X8_267 : z_fl RX8 267 0 5 0 := ⟨RX0, TX0, _, rfl, by decide, rfl, z_in 249 (by decide +kernel) (by decide +kernel)⟩
theorem zp_X8_267 : z_pl RX8 267 0 5 0 .int false := ⟨RX0, TX0, _, rfl, by decide, rfl, z_in 249 (by decide +kernel) (by decide +kernel), rfl, by decide +kernel, fun h => by first | rfl | cases h⟩
theorem zk_X5_3 : Cond.methodLink RX5 3 Lib.objectInit ∈ z_tbl := z_in 268 (by decide +kernel) (by decide +kernel)
theorem zf_X5_11 : z_fl RX5 11 5 0 2 := ⟨RX5, TX5, _, rfl, by decide, rfl, z_in 269 (by decide +kernel) (by decide +kernel)⟩
theorem zp_X5_11 : z_pl RX5 11 5 0 2 (.array .int) true := ⟨RX5, TX5, _, rfl, by decide, rfl, z_in 269 (by decide +kernel) (by decide +kernel), rfl, by decide +kernel, fun h => by first | rfl | cases h⟩
theorem zf_X8_320 : z_fl RX8 320 5 0 2 := ⟨RX5, TX5, _, rfl, by decide, rfl, z_in 270 (by decide +kernel) (by decide +kernel)⟩
theorem zf_X5_15 : z_fl RX5 15 5 1 0 := ⟨RX5, TX5, _, rfl, by decide, rfl, z_in 271 (by decide +kernel) (by decide +kernel)⟩
theorem zp_X5_15 : z_pl RX5 15 5 1 0 .int false := ⟨RX5, TX5, _, rfl, by decide, rfl, z_in 271 (by decide +kernel) (by decide +kernel), rfl, by decide +kernel, fun h => by first | rfl | cases h⟩
theorem zf_X8_331 : z_fl RX8 331 5 1 0 := ⟨RX5, TX5, _, rfl, by decide, rfl, z_in 272 (by decide +kernel) (by decide +kernel)⟩
theorem zp_X8_331 : z_pl RX8 331 5 1 0 .int false := ⟨RX5, TX5, _, rfl, by decide, rfl, z_in 272 (by decide +kernel) (by decide +kernel), rfl, by decide +kernel, fun h => by first | rfl | cases h⟩
theorem zf_X5_19 : z_fl RX5 19 5 2 2 := ⟨RX5, TX5, _, rfl, by decide, rfl, z_in 273 (by decide +kernel) (by decide +kernel)⟩
theorem zp_X5_19 : z_pl RX5 19 5 2 2 (.array .int) true := ⟨RX5, TX5, _, rfl, by decide, rfl, z_in 273 (by decide +kernel) (by decide +kernel), rfl, by decide +kernel, fun h => by first | rfl | cases h⟩
theorem zf_X5_22 : z_fl RX5 22 5 3 0 := ⟨RX5, TX5, _, rfl, by decide, rfl, z_in 274 (by decide +kernel) (by decide +kernel)⟩
theorem zp_X5_22 : z_pl RX5 22 5 3 0 .int false := ⟨RX5, TX5, _, rfl, by decide, rfl, z_in 274 (by decide +kernel) (by decide +kernel), rfl, by decide +kernel, fun h => by first | rfl | cases h⟩
theorem zf_X8_334 : z_fl RX8 334 5 3 0 := ⟨RX5, TX5, _, rfl, by decide, rfl, z_in 275 (by decide +kernel) (by decide +kernel)⟩
theorem zp_X8_334 : z_pl RX8 334 5 3 0 .int false := ⟨RX5, TX5, _, rfl, by decide, rfl, z_in 275 (by decide +kernel) (by decide +kernel), rfl, by decide +kernel, fun h => by first | rfl | cases h⟩
theorem zf_X5_25 : z_fl RX5 25 5 4 0 := ⟨RX5, TX5, _, rfl, by decide, rfl, z_in 276 (by decide +kernel) (by decide +kernel)⟩
theorem zp_X5_25 : z_pl RX5 25 5 4 0 .int false := ⟨RX5, TX5, _, rfl, by decide, rfl, z_in 276 (by decide +kernel) (by decide +kernel), rfl, by decide +kernel, fun h => by first | rfl | cases h⟩
theorem zk_X4_3 : Cond.methodLink RX4 3 Lib.objectInit ∈ z_tbl := z_in 294 (by decide +kernel) (by decide +kernel)
theorem zf_X4_9 : z_fl RX4 9 4 0 0 := ⟨RX4, TX4, _, rfl, by decide, rfl, z_in 295 (by decide +kernel) (by decide +kernel)⟩
theorem zp_X4_9 : z_pl RX4 9 4 0 0 .int false := ⟨RX4, TX4, _, rfl, by decide, rfl, z_in 295 (by decide +kernel) (by decide +kernel), rfl, by decide +kernel, fun h => by first | rfl | cases h⟩
theorem zf_X8_84 : z_fl RX8 84 4 0 0 := ⟨RX4, TX4, _, rfl, by decide, rfl, z_in 296 (by decide +kernel) (by decide +kernel)⟩
theorem zp_X8_84 : z_pl RX8 84 4 0 0 .int false := ⟨RX4, TX4, _, rfl, by decide, rfl, z_in 296 (by decide +kernel) (by decide +kernel), rfl, by decide +kernel, fun h => by first | rfl | cases h⟩
theorem zf_X4_15 : z_fl RX4 15 4 1 0 := ⟨RX4, TX4, _, rfl, by decide, rfl, z_in 297 (by decide +kernel) (by decide +kernel)⟩
theorem zp_X4_15 : z_pl RX4 15 4 1 0 .int false := ⟨RX4, TX4, _, rfl, by decide, rfl, z_in 297 (by decide +kernel) (by decide +kernel), rfl, by decide +kernel, fun h => by first | rfl | cases h⟩
theorem zf_X8_317 : z_fl RX8 317 4 1 0 := ⟨RX4, TX4, _, rfl, by decide, rfl, z_in 298 (by decide +kernel) (by decide +kernel)⟩
theorem zp_X8_317 : z_pl RX8 317 4 1 0 .int false := ⟨RX4, TX4, _, rfl, by decide, rfl, z_in 298 (by decide +kernel) (by decide +kernel), rfl, by decide +kernel, fun h => by first | rfl | cases h⟩
theorem zf_X4_18 : z_fl RX4 18 4 2 0 := ⟨RX4, TX4, _, rfl, by decide, rfl, z_in 299 (by decide +kernel) (by decide +kernel)⟩
theorem zp_X4_18 : z_pl RX4 18 4 2 0 .int false := ⟨RX4, TX4, _, rfl, by decide, rfl, z_in 299 (by decide +kernel) (by decide +kernel), rfl, by decide +kernel, fun h => by first | rfl | cases h⟩
theorem zf_X2_32 : z_fl RX2 32 4 2 0 := ⟨RX4, TX4, _, rfl, by decide, rfl, z_in 300 (by decide +kernel) (by decide +kernel)⟩
theorem zp_X2_32 : z_pl RX2 32 4 2 0 .int false := ⟨RX4, TX4, _, rfl, by decide, rfl, z_in 300 (by decide +kernel) (by decide +kernel), rfl, by decide +kernel, fun h => by first | rfl | cases h⟩
theorem zf_X8_88 : z_fl RX8 88 4 2 0 := ⟨RX4, TX4, _, rfl, by decide, rfl, z_in 301 (by decide +kernel) (by decide +kernel)⟩
theorem zp_X8_88 : z_pl RX8 88 4 2 0 .int false := ⟨RX4, TX4, _, rfl, by decide, rfl, z_in 301 (by decide +kernel) (by decide +kernel), rfl, by decide +kernel, fun h => by first | rfl | cases h⟩
theorem zf_X3_43 : z_fl RX3 43 4 2 0 := ⟨RX4, TX4, _, rfl, by decide, rfl, z_in 302 (by decide +kernel) (by decide +kernel)⟩
theorem zp_X3_43 : z_pl RX3 43 4 2 0 .int false := ⟨RX4, TX4, _, rfl, by decide, rfl, z_in 302 (by decide +kernel) (by decide +kernel), rfl, by decide +kernel, fun h => by first | rfl | cases h⟩
theorem zf_X4_21 : z_fl RX4 21 4 3 2 := ⟨RX4, TX4, _, rfl, by decide, rfl, z_in 303 (by decide +kernel) (by decide +kernel)⟩
theorem zp_X4_21 : z_pl RX4 21 4 3 2 (.array .long) true := ⟨RX4, TX4, _, rfl, by decide, rfl, z_in 303 (by decide +kernel) (by decide +kernel), rfl, by decide +kernel, fun h => by first | rfl | cases h⟩
theorem zf_X8_307 : z_fl RX8 307 4 3 2 := ⟨RX4, TX4, _, rfl, by decide, rfl, z_in 304 (by decide +kernel) (by decide +kernel)⟩
theorem zf_X8_10 : z_fl RX8 10 8 0 2 := ⟨RX8, TX8, _, rfl, by decide, rfl, z_in 314 (by decide +kernel) (by decide +kernel)⟩
theorem zp_X8_10 : z_pl RX8 10 8 0 2 (.object "UmpireLost$Yard") true := ⟨RX8, TX8, _, rfl, by decide, rfl, z_in 314 (by decide +kernel) (by decide +kernel), rfl, by decide +kernel, fun h => by first | rfl | cases h⟩
theorem zf_X8_16 : z_fl RX8 16 8 1 2 := ⟨RX8, TX8, _, rfl, by decide, rfl, z_in 315 (by decide +kernel) (by decide +kernel)⟩
theorem zp_X8_16 : z_pl RX8 16 8 1 2 (.object "UmpireLost$Yard") true := ⟨RX8, TX8, _, rfl, by decide, rfl, z_in 315 (by decide +kernel) (by decide +kernel), rfl, by decide +kernel, fun h => by first | rfl | cases h⟩
theorem zf_X8_19 : z_fl RX8 19 8 2 3 := ⟨RX8, TX8, _, rfl, by decide, rfl, z_in 316 (by decide +kernel) (by decide +kernel)⟩
theorem zp_X8_19 : z_pl RX8 19 8 2 3 .boolean false := ⟨RX8, TX8, _, rfl, by decide, rfl, z_in 316 (by decide +kernel) (by decide +kernel), rfl, by decide +kernel, fun h => by first | rfl | cases h⟩
theorem zf_X8_26 : z_fl RX8 26 8 3 2 := ⟨RX8, TX8, _, rfl, by decide, rfl, z_in 317 (by decide +kernel) (by decide +kernel)⟩
theorem zp_X8_26 : z_pl RX8 26 8 3 2 (.object "UmpireLost$Law") true := ⟨RX8, TX8, _, rfl, by decide, rfl, z_in 317 (by decide +kernel) (by decide +kernel), rfl, by decide +kernel, fun h => by first | rfl | cases h⟩
theorem zf_X8_33 : z_fl RX8 33 8 4 2 := ⟨RX8, TX8, _, rfl, by decide, rfl, z_in 318 (by decide +kernel) (by decide +kernel)⟩
theorem zp_X8_33 : z_pl RX8 33 8 4 2 (.object "UmpireLost$Season") true := ⟨RX8, TX8, _, rfl, by decide, rfl, z_in 318 (by decide +kernel) (by decide +kernel), rfl, by decide +kernel, fun h => by first | rfl | cases h⟩
theorem zf_X8_40 : z_fl RX8 40 8 5 2 := ⟨RX8, TX8, _, rfl, by decide, rfl, z_in 319 (by decide +kernel) (by decide +kernel)⟩
theorem zp_X8_40 : z_pl RX8 40 8 5 2 (.object "UmpireLost$Results") true := ⟨RX8, TX8, _, rfl, by decide, rfl, z_in 319 (by decide +kernel) (by decide +kernel), rfl, by decide +kernel, fun h => by first | rfl | cases h⟩
theorem zf_X8_47 : z_fl RX8 47 8 6 2 := ⟨RX8, TX8, _, rfl, by decide, rfl, z_in 320 (by decide +kernel) (by decide +kernel)⟩
theorem zp_X8_47 : z_pl RX8 47 8 6 2 (.object "UmpireLost$Turns") true := ⟨RX8, TX8, _, rfl, by decide, rfl, z_in 320 (by decide +kernel) (by decide +kernel), rfl, by decide +kernel, fun h => by first | rfl | cases h⟩
theorem zf_X8_54 : z_fl RX8 54 8 7 2 := ⟨RX8, TX8, _, rfl, by decide, rfl, z_in 321 (by decide +kernel) (by decide +kernel)⟩
theorem zp_X8_54 : z_pl RX8 54 8 7 2 (.object "UmpireLost$Changes") true := ⟨RX8, TX8, _, rfl, by decide, rfl, z_in 321 (by decide +kernel) (by decide +kernel), rfl, by decide +kernel, fun h => by first | rfl | cases h⟩
theorem zf_X8_61 : z_fl RX8 61 8 8 2 := ⟨RX8, TX8, _, rfl, by decide, rfl, z_in 322 (by decide +kernel) (by decide +kernel)⟩
theorem zp_X8_61 : z_pl RX8 61 8 8 2 (.object "UmpireLost$Stools") true := ⟨RX8, TX8, _, rfl, by decide, rfl, z_in 322 (by decide +kernel) (by decide +kernel), rfl, by decide +kernel, fun h => by first | rfl | cases h⟩
theorem zf_X8_67 : z_fl RX8 67 8 9 2 := ⟨RX8, TX8, _, rfl, by decide, rfl, z_in 323 (by decide +kernel) (by decide +kernel)⟩
theorem zp_X8_67 : z_pl RX8 67 8 9 2 (.array (.object "UmpireLost$Shelf")) true := ⟨RX8, TX8, _, rfl, by decide, rfl, z_in 323 (by decide +kernel) (by decide +kernel), rfl, by decide +kernel, fun h => by first | rfl | cases h⟩
theorem zk_L_13 : z_lk RL 13 zm_X8_player 1 := ⟨z_in 345 (by decide +kernel) (by decide +kernel), zn_X8, zw_X8_player, by decide +kernel, by decide +kernel, by decide⟩
theorem zk_X8_72 : z_lk RX8 72 zm_X8_isWithin 2 := ⟨z_in 349 (by decide +kernel) (by decide +kernel), zn_X8, zw_X8_isWithin, by decide +kernel, by decide +kernel, by decide⟩
theorem zk_X8_76 : z_lk RX8 76 zm_X7_join 3 := ⟨z_in 352 (by decide +kernel) (by decide +kernel), zn_X7, zw_X7_join, by decide +kernel, by decide +kernel, by decide⟩
theorem zk_X7_41 : z_lk RX7 41 zm_X7_isFull 0 := ⟨z_in 356 (by decide +kernel) (by decide +kernel), zn_X7, zw_X7_isFull, by decide +kernel, by decide +kernel, by decide⟩
theorem zk_L_18 : z_lk RL 18 zm_X8_players 3 := ⟨z_in 360 (by decide +kernel) (by decide +kernel), zn_X8, zw_X8_players, by decide +kernel, by decide +kernel, by decide⟩
theorem zk_X8_80 : z_lk RX8 80 zm_X8_isShelf 1 := ⟨z_in 364 (by decide +kernel) (by decide +kernel), zn_X8, zw_X8_isShelf, by decide +kernel, by decide +kernel, by decide⟩
theorem zk_X8_91 : z_lk RX8 91 zm_X7_isFull 0 := ⟨z_in 367 (by decide +kernel) (by decide +kernel), zn_X7, zw_X7_isFull, by decide +kernel, by decide +kernel, by decide⟩
theorem zk_X8_95 : z_lk RX8 95 zm_X4_valueAt 1 := ⟨z_in 368 (by decide +kernel) (by decide +kernel), zn_X4, zw_X4_valueAt, by decide +kernel, by decide +kernel, by decide⟩
theorem zk_X4_25 : z_lk RX4 25 zm_X4_hasPlaces 2 := ⟨z_in 372 (by decide +kernel) (by decide +kernel), zn_X4, zw_X4_hasPlaces, by decide +kernel, by decide +kernel, by decide⟩
theorem zk_L_23 : z_lk RL 23 zm_X8_mend 3 := ⟨z_in 376 (by decide +kernel) (by decide +kernel), zn_X8, zw_X8_mend, by decide +kernel, by decide +kernel, by decide⟩
theorem zk_X8_99 : z_lk RX8 99 zm_X8_isNumber 2 := ⟨z_in 380 (by decide +kernel) (by decide +kernel), zn_X8, zw_X8_isNumber, by decide +kernel, by decide +kernel, by decide⟩
theorem zk_X8_133 : z_lk RX8 133 zm_X7_has 1 := ⟨z_in 384 (by decide +kernel) (by decide +kernel), zn_X7, zw_X7_has, by decide +kernel, by decide +kernel, by decide⟩
theorem zq_X8_102 : Cond.constant RX8 102 (-2000000000) ∈ z_tbl := z_in 388 (by decide +kernel) (by decide +kernel)
theorem zk_X8_103 : z_lk RX8 103 zm_X7_numberOf 2 := ⟨z_in 389 (by decide +kernel) (by decide +kernel), zn_X7, zw_X7_numberOf, by decide +kernel, by decide +kernel, by decide⟩
theorem zk_X7_37 : z_lk RX7 37 zm_X7_has 1 := ⟨z_in 393 (by decide +kernel) (by decide +kernel), zn_X7, zw_X7_has, by decide +kernel, by decide +kernel, by decide⟩
theorem zq_X7_45 : Cond.constant RX7 45 (-2000000000) ∈ z_tbl := z_in 394 (by decide +kernel) (by decide +kernel)
theorem zk_X8_107 : z_lk RX8 107 zm_X0_remember 4 := ⟨z_in 395 (by decide +kernel) (by decide +kernel), zn_X0, zw_X0_remember, by decide +kernel, by decide +kernel, by decide⟩
theorem zk_X0_29 : z_lk RX0 29 zm_X0_forgetOldest 0 := ⟨z_in 399 (by decide +kernel) (by decide +kernel), zn_X0, zw_X0_forgetOldest, by decide +kernel, by decide +kernel, by decide⟩
theorem zk_X0_32 : Cond.methodLink RX0 32 arraycopyName ∈ z_tbl := z_in 403 (by decide +kernel) (by decide +kernel)
theorem zk_X8_111 : z_lk RX8 111 zm_X7_become 3 := ⟨z_in 406 (by decide +kernel) (by decide +kernel), zn_X7, zw_X7_become, by decide +kernel, by decide +kernel, by decide⟩
theorem zk_L_27 : z_lk RL 27 zm_X8_of 2 := ⟨z_in 410 (by decide +kernel) (by decide +kernel), zn_X8, zw_X8_of, by decide +kernel, by decide +kernel, by decide⟩
theorem zk_L_32 : z_lk RL 32 zm_X8_feed 1 := ⟨z_in 414 (by decide +kernel) (by decide +kernel), zn_X8, zw_X8_feed, by decide +kernel, by decide +kernel, by decide⟩
theorem zk_X8_115 : z_lk RX8 115 zm_X1_append 1 := ⟨z_in 418 (by decide +kernel) (by decide +kernel), zn_X1, zw_X1_append, by decide +kernel, by decide +kernel, by decide⟩
theorem zk_L_36 : z_lk RL 36 zm_X8_law 0 := ⟨z_in 422 (by decide +kernel) (by decide +kernel), zn_X8, zw_X8_law, by decide +kernel, by decide +kernel, by decide⟩
theorem zk_X8_119 : z_lk RX8 119 zm_X1_adopt 0 := ⟨z_in 426 (by decide +kernel) (by decide +kernel), zn_X1, zw_X1_adopt, by decide +kernel, by decide +kernel, by decide⟩
theorem zk_X1_40 : z_lk RX1 40 zm_X1_readLines 0 := ⟨z_in 430 (by decide +kernel) (by decide +kernel), zn_X1, zw_X1_readLines, by decide +kernel, by decide +kernel, by decide⟩
theorem zk_X1_44 : z_lk RX1 44 zm_X1_readLine 0 := ⟨z_in 434 (by decide +kernel) (by decide +kernel), zn_X1, zw_X1_readLine, by decide +kernel, by decide +kernel, by decide⟩
theorem zk_X1_51 : z_lk RX1 51 zm_X1_readLevel 2 := ⟨z_in 438 (by decide +kernel) (by decide +kernel), zn_X1, zw_X1_readLevel, by decide +kernel, by decide +kernel, by decide⟩
theorem zk_X1_59 : z_lk RX1 59 zm_X1_readOperand 1 := ⟨z_in 442 (by decide +kernel) (by decide +kernel), zn_X1, zw_X1_readOperand, by decide +kernel, by decide +kernel, by decide⟩
theorem zk_X1_47 : z_lk RX1 47 zm_X1_next 0 := ⟨z_in 446 (by decide +kernel) (by decide +kernel), zn_X1, zw_X1_next, by decide +kernel, by decide +kernel, by decide⟩
theorem zk_X1_67 : z_lk RX1 67 zm_X1_isDigit 1 := ⟨z_in 450 (by decide +kernel) (by decide +kernel), zn_X1, zw_X1_isDigit, by decide +kernel, by decide +kernel, by decide⟩
theorem zk_X1_70 : z_lk RX1 70 zm_X1_readNumber 0 := ⟨z_in 453 (by decide +kernel) (by decide +kernel), zn_X1, zw_X1_readNumber, by decide +kernel, by decide +kernel, by decide⟩
theorem zk_X1_55 : z_lk RX1 55 zm_X1_write 1 := ⟨z_in 457 (by decide +kernel) (by decide +kernel), zn_X1, zw_X1_write, by decide +kernel, by decide +kernel, by decide⟩
theorem zk_X1_73 : z_lk RX1 73 zm_X1_isName 1 := ⟨z_in 461 (by decide +kernel) (by decide +kernel), zn_X1, zw_X1_isName, by decide +kernel, by decide +kernel, by decide⟩
theorem zk_X1_63 : z_lk RX1 63 zm_X1_levelOf 1 := ⟨z_in 464 (by decide +kernel) (by decide +kernel), zn_X1, zw_X1_levelOf, by decide +kernel, by decide +kernel, by decide⟩
theorem zk_L_41 : z_lk RL 41 zm_X8_odds 1 := ⟨z_in 467 (by decide +kernel) (by decide +kernel), zn_X8, zw_X8_odds, by decide +kernel, by decide +kernel, by decide⟩
theorem zk_X8_123 : z_lk RX8 123 zm_X8_isThree 1 := ⟨z_in 471 (by decide +kernel) (by decide +kernel), zn_X8, zw_X8_isThree, by decide +kernel, by decide +kernel, by decide⟩
theorem zk_X8_337 : z_lk RX8 337 zm_X7_areUnlike 3 := ⟨z_in 475 (by decide +kernel) (by decide +kernel), zn_X7, zw_X7_areUnlike, by decide +kernel, by decide +kernel, by decide⟩
theorem zk_X8_126 : z_lk RX8 126 zm_X1_oddsOn 4 := ⟨z_in 479 (by decide +kernel) (by decide +kernel), zn_X1, zw_X1_oddsOn, by decide +kernel, by decide +kernel, by decide⟩
theorem zk_X1_76 : z_lk RX1 76 zm_X7_areUnlike 3 := ⟨z_in 483 (by decide +kernel) (by decide +kernel), zn_X7, zw_X7_areUnlike, by decide +kernel, by decide +kernel, by decide⟩
theorem zk_X1_82 : z_lk RX1 82 zm_X1_withoutText 4 := ⟨z_in 484 (by decide +kernel) (by decide +kernel), zn_X1, zw_X1_withoutText, by decide +kernel, by decide +kernel, by decide⟩
theorem zk_X1_101 : z_lk RX1 101 zm_J6_bitCount_0f7a4 1 := ⟨z_in 487 (by decide +kernel) (by decide +kernel), zn_J6, zw_J6_bitCount_0f7a4, by decide +kernel, by decide +kernel, by decide⟩
theorem zq_J6_265 : Cond.constant RJ6 265 (1431655765) ∈ z_tbl := z_in 490 (by decide +kernel) (by decide +kernel)
theorem zq_J6_266 : Cond.constant RJ6 266 (858993459) ∈ z_tbl := z_in 491 (by decide +kernel) (by decide +kernel)
theorem zq_J6_267 : Cond.constant RJ6 267 (252645135) ∈ z_tbl := z_in 492 (by decide +kernel) (by decide +kernel)
theorem zk_X1_86 : z_lk RX1 86 zm_X1_byText 4 := ⟨z_in 493 (by decide +kernel) (by decide +kernel), zn_X1, zw_X1_byText, by decide +kernel, by decide +kernel, by decide⟩
theorem zk_X1_112 : z_lk RX1 112 zm_X1_push 1 := ⟨z_in 497 (by decide +kernel) (by decide +kernel), zn_X1, zw_X1_push, by decide +kernel, by decide +kernel, by decide⟩
theorem zk_X1_115 : z_lk RX1 115 zm_X1_pop 0 := ⟨z_in 501 (by decide +kernel) (by decide +kernel), zn_X1, zw_X1_pop, by decide +kernel, by decide +kernel, by decide⟩
theorem zk_X1_118 : z_lk RX1 118 zm_X1_named 5 := ⟨z_in 505 (by decide +kernel) (by decide +kernel), zn_X1, zw_X1_named, by decide +kernel, by decide +kernel, by decide⟩
theorem zk_X1_122 : z_lk RX1 122 zm_X1_join 1 := ⟨z_in 508 (by decide +kernel) (by decide +kernel), zn_X1, zw_X1_join, by decide +kernel, by decide +kernel, by decide⟩
theorem zk_X1_128 : z_lk RX1 128 zm_X1_joined 3 := ⟨z_in 512 (by decide +kernel) (by decide +kernel), zn_X1, zw_X1_joined, by decide +kernel, by decide +kernel, by decide⟩
theorem zk_X1_89 : z_lk RX1 89 zm_J9_min_7cf53 2 := ⟨z_in 515 (by decide +kernel) (by decide +kernel), zn_J9, zw_J9_min_7cf53, by decide +kernel, by decide +kernel, by decide⟩
theorem zk_X1_95 : z_lk RX1 95 zm_J9_max_7cf53 2 := ⟨z_in 518 (by decide +kernel) (by decide +kernel), zn_J9, zw_J9_max_7cf53, by decide +kernel, by decide +kernel, by decide⟩
theorem zk_L_45 : z_lk RL 45 zm_X8_judges 0 := ⟨z_in 521 (by decide +kernel) (by decide +kernel), zn_X8, zw_X8_judges, by decide +kernel, by decide +kernel, by decide⟩
theorem zk_X8_130 : z_lk RX8 130 zm_X7_judgeBits 0 := ⟨z_in 525 (by decide +kernel) (by decide +kernel), zn_X7, zw_X7_judgeBits, by decide +kernel, by decide +kernel, by decide⟩
theorem zk_X7_46 : z_lk RX7 46 zm_X7_mayJudge 1 := ⟨z_in 529 (by decide +kernel) (by decide +kernel), zn_X7, zw_X7_mayJudge, by decide +kernel, by decide +kernel, by decide⟩
theorem zk_L_49 : z_lk RL 49 zm_X8_bestJudge 1 := ⟨z_in 533 (by decide +kernel) (by decide +kernel), zn_X8, zw_X8_bestJudge, by decide +kernel, by decide +kernel, by decide⟩
theorem zk_X8_139 : z_lk RX8 139 zm_X7_mayJudge 1 := ⟨z_in 537 (by decide +kernel) (by decide +kernel), zn_X7, zw_X7_mayJudge, by decide +kernel, by decide +kernel, by decide⟩
theorem zk_L_53 : z_lk RL 53 zm_X8_held 1 := ⟨z_in 538 (by decide +kernel) (by decide +kernel), zn_X8, zw_X8_held, by decide +kernel, by decide +kernel, by decide⟩
theorem zk_X8_142 : z_lk RX8 142 zm_X8_bytesRefusal 1 := ⟨z_in 542 (by decide +kernel) (by decide +kernel), zn_X8, zw_X8_bytesRefusal, by decide +kernel, by decide +kernel, by decide⟩
theorem zk_X8_146 : z_lk RX8 146 zm_X3_begin 1 := ⟨z_in 546 (by decide +kernel) (by decide +kernel), zn_X3, zw_X3_begin, by decide +kernel, by decide +kernel, by decide⟩
theorem zk_X3_29 : z_lk RX3 29 zm_X7_copyAll 1 := ⟨z_in 550 (by decide +kernel) (by decide +kernel), zn_X7, zw_X7_copyAll, by decide +kernel, by decide +kernel, by decide⟩
theorem zk_X7_82 : Cond.methodLink RX7 82 arraycopyName ∈ z_tbl := z_in 554 (by decide +kernel) (by decide +kernel)
theorem zk_X7_88 : z_lk RX7 88 zm_X7_layBack 1 := ⟨z_in 555 (by decide +kernel) (by decide +kernel), zn_X7, zw_X7_layBack, by decide +kernel, by decide +kernel, by decide⟩
theorem zk_X7_66 : z_lk RX7 66 zm_J9_min_7cf53 2 := ⟨z_in 559 (by decide +kernel) (by decide +kernel), zn_J9, zw_J9_min_7cf53, by decide +kernel, by decide +kernel, by decide⟩
theorem zk_X8_150 : z_lk RX8 150 zm_X3_holdCard 3 := ⟨z_in 560 (by decide +kernel) (by decide +kernel), zn_X3, zw_X3_holdCard, by decide +kernel, by decide +kernel, by decide⟩
theorem zk_X3_48 : z_lk RX3 48 zm_X4_valueAt 1 := ⟨z_in 564 (by decide +kernel) (by decide +kernel), zn_X4, zw_X4_valueAt, by decide +kernel, by decide +kernel, by decide⟩
theorem zk_X3_52 : z_lk RX3 52 zm_X7_canHold 3 := ⟨z_in 565 (by decide +kernel) (by decide +kernel), zn_X7, zw_X7_canHold, by decide +kernel, by decide +kernel, by decide⟩
theorem zk_X7_52 : z_lk RX7 52 zm_X7_areUnlike 3 := ⟨z_in 569 (by decide +kernel) (by decide +kernel), zn_X7, zw_X7_areUnlike, by decide +kernel, by decide +kernel, by decide⟩
theorem zk_X7_49 : z_lk RX7 49 zm_X7_isFree 1 := ⟨z_in 570 (by decide +kernel) (by decide +kernel), zn_X7, zw_X7_isFree, by decide +kernel, by decide +kernel, by decide⟩
theorem zk_X3_56 : z_lk RX3 56 zm_X1_oddsOn 4 := ⟨z_in 574 (by decide +kernel) (by decide +kernel), zn_X1, zw_X1_oddsOn, by decide +kernel, by decide +kernel, by decide⟩
theorem zk_X3_62 : z_lk RX3 62 zm_X7_draw 0 := ⟨z_in 575 (by decide +kernel) (by decide +kernel), zn_X7, zw_X7_draw, by decide +kernel, by decide +kernel, by decide⟩
theorem zq_X7_78 : Cond.constant RX7 78 (1103515245) ∈ z_tbl := z_in 579 (by decide +kernel) (by decide +kernel)
theorem zk_X3_66 : z_lk RX3 66 zm_X3_settle 3 := ⟨z_in 580 (by decide +kernel) (by decide +kernel), zn_X3, zw_X3_settle, by decide +kernel, by decide +kernel, by decide⟩
theorem zk_X3_70 : z_lk RX3 70 zm_X7_settle 3 := ⟨z_in 584 (by decide +kernel) (by decide +kernel), zn_X7, zw_X7_settle, by decide +kernel, by decide +kernel, by decide⟩
theorem zk_L_57 : z_lk RL 57 zm_X8_loses 1 := ⟨z_in 588 (by decide +kernel) (by decide +kernel), zn_X8, zw_X8_loses, by decide +kernel, by decide +kernel, by decide⟩
theorem zk_L_61 : z_lk RL 61 zm_X8_behind 4 := ⟨z_in 592 (by decide +kernel) (by decide +kernel), zn_X8, zw_X8_behind, by decide +kernel, by decide +kernel, by decide⟩
theorem zk_X8_160 : z_lk RX8 160 zm_X3_goThrough 4 := ⟨z_in 596 (by decide +kernel) (by decide +kernel), zn_X3, zw_X3_goThrough, by decide +kernel, by decide +kernel, by decide⟩
theorem zk_X3_36 : z_lk RX3 36 zm_X3_holdCard 3 := ⟨z_in 600 (by decide +kernel) (by decide +kernel), zn_X3, zw_X3_holdCard, by decide +kernel, by decide +kernel, by decide⟩
theorem zk_X3_40 : z_lk RX3 40 zm_X7_endDay 0 := ⟨z_in 601 (by decide +kernel) (by decide +kernel), zn_X7, zw_X7_endDay, by decide +kernel, by decide +kernel, by decide⟩
theorem zk_X7_79 : z_lk RX7 79 zm_J9_max_7cf53 2 := ⟨z_in 605 (by decide +kernel) (by decide +kernel), zn_J9, zw_J9_max_7cf53, by decide +kernel, by decide +kernel, by decide⟩
theorem zk_L_66 : z_lk RL 66 zm_X8_atOnce 1 := ⟨z_in 606 (by decide +kernel) (by decide +kernel), zn_X8, zw_X8_atOnce, by decide +kernel, by decide +kernel, by decide⟩
theorem zk_X8_172 : z_lk RX8 172 zm_X7_freeBits 0 := ⟨z_in 610 (by decide +kernel) (by decide +kernel), zn_X7, zw_X7_freeBits, by decide +kernel, by decide +kernel, by decide⟩
theorem zk_X8_175 : z_lk RX8 175 zm_X7_mostAtOnce 1 := ⟨z_in 614 (by decide +kernel) (by decide +kernel), zn_X7, zw_X7_mostAtOnce, by decide +kernel, by decide +kernel, by decide⟩
theorem zk_X7_56 : z_lk RX7 56 zm_X7_judgeBits 0 := ⟨z_in 618 (by decide +kernel) (by decide +kernel), zn_X7, zw_X7_judgeBits, by decide +kernel, by decide +kernel, by decide⟩
theorem zk_X7_60 : z_lk RX7 60 zm_J6_bitCount_0f7a4 1 := ⟨z_in 619 (by decide +kernel) (by decide +kernel), zn_J6, zw_J6_bitCount_0f7a4, by decide +kernel, by decide +kernel, by decide⟩
theorem zk_X8_178 : z_lk RX8 178 zm_X7_firstAtOnce 2 := ⟨z_in 620 (by decide +kernel) (by decide +kernel), zn_X7, zw_X7_firstAtOnce, by decide +kernel, by decide +kernel, by decide⟩
theorem zk_X7_72 : z_lk RX7 72 zm_X7_canHold 3 := ⟨z_in 624 (by decide +kernel) (by decide +kernel), zn_X7, zw_X7_canHold, by decide +kernel, by decide +kernel, by decide⟩
theorem zk_X7_75 : z_lk RX7 75 zm_X7_mostAtOnce 1 := ⟨z_in 625 (by decide +kernel) (by decide +kernel), zn_X7, zw_X7_mostAtOnce, by decide +kernel, by decide +kernel, by decide⟩
theorem zk_L_70 : z_lk RL 70 zm_X8_tomorrow 1 := ⟨z_in 626 (by decide +kernel) (by decide +kernel), zn_X8, zw_X8_tomorrow, by decide +kernel, by decide +kernel, by decide⟩
theorem zk_X8_181 : z_lk RX8 181 zm_X7_canHold 3 := ⟨z_in 630 (by decide +kernel) (by decide +kernel), zn_X7, zw_X7_canHold, by decide +kernel, by decide +kernel, by decide⟩
theorem zk_L_74 : z_lk RL 74 zm_X8_order 2 := ⟨z_in 631 (by decide +kernel) (by decide +kernel), zn_X8, zw_X8_order, by decide +kernel, by decide +kernel, by decide⟩
theorem zk_X8_185 : z_lk RX8 185 zm_X2_read 2 := ⟨z_in 635 (by decide +kernel) (by decide +kernel), zn_X2, zw_X2_read, by decide +kernel, by decide +kernel, by decide⟩
theorem zk_X2_37 : z_lk RX2 37 zm_X4_valueAt 1 := ⟨z_in 639 (by decide +kernel) (by decide +kernel), zn_X4, zw_X4_valueAt, by decide +kernel, by decide +kernel, by decide⟩
theorem zk_X2_41 : z_lk RX2 41 zm_X7_has 1 := ⟨z_in 640 (by decide +kernel) (by decide +kernel), zn_X7, zw_X7_has, by decide +kernel, by decide +kernel, by decide⟩
theorem zk_X8_189 : z_lk RX8 189 zm_X2_weigh 0 := ⟨z_in 641 (by decide +kernel) (by decide +kernel), zn_X2, zw_X2_weigh, by decide +kernel, by decide +kernel, by decide⟩
theorem zk_X2_45 : z_lk RX2 45 zm_X2_fewestOf 1 := ⟨z_in 645 (by decide +kernel) (by decide +kernel), zn_X2, zw_X2_fewestOf, by decide +kernel, by decide +kernel, by decide⟩
theorem zq_X2_51 : Cond.constant RX2 51 (2147483647) ∈ z_tbl := z_in 649 (by decide +kernel) (by decide +kernel)
theorem zk_X2_52 : z_lk RX2 52 zm_X2_upsetLedBy 2 := ⟨z_in 650 (by decide +kernel) (by decide +kernel), zn_X2, zw_X2_upsetLedBy, by decide +kernel, by decide +kernel, by decide⟩
theorem zk_X2_56 : z_lk RX2 56 zm_J9_min_7cf53 2 := ⟨z_in 654 (by decide +kernel) (by decide +kernel), zn_J9, zw_J9_min_7cf53, by decide +kernel, by decide +kernel, by decide⟩
theorem zk_X8_192 : z_lk RX8 192 zm_X2_fewestUpset 0 := ⟨z_in 655 (by decide +kernel) (by decide +kernel), zn_X2, zw_X2_fewestUpset, by decide +kernel, by decide +kernel, by decide⟩
theorem zk_X8_195 : z_lk RX8 195 zm_X2_inOrder 1 := ⟨z_in 659 (by decide +kernel) (by decide +kernel), zn_X2, zw_X2_inOrder, by decide +kernel, by decide +kernel, by decide⟩
theorem zk_X2_61 : z_lk RX2 61 zm_X2_leaderOf 1 := ⟨z_in 663 (by decide +kernel) (by decide +kernel), zn_X2, zw_X2_leaderOf, by decide +kernel, by decide +kernel, by decide⟩
theorem zk_L_78 : z_lk RL 78 zm_X8_ring 1 := ⟨z_in 667 (by decide +kernel) (by decide +kernel), zn_X8, zw_X8_ring, by decide +kernel, by decide +kernel, by decide⟩
theorem zk_X8_198 : z_lk RX8 198 zm_X2_smallestRing 0 := ⟨z_in 671 (by decide +kernel) (by decide +kernel), zn_X2, zw_X2_smallestRing, by decide +kernel, by decide +kernel, by decide⟩
theorem zk_X2_64 : z_lk RX2 64 zm_X2_ringThrough 1 := ⟨z_in 675 (by decide +kernel) (by decide +kernel), zn_X2, zw_X2_ringThrough, by decide +kernel, by decide +kernel, by decide⟩
theorem zk_X2_67 : z_lk RX2 67 zm_X2_beatenBy 1 := ⟨z_in 679 (by decide +kernel) (by decide +kernel), zn_X2, zw_X2_beatenBy, by decide +kernel, by decide +kernel, by decide⟩
theorem zk_L_82 : z_lk RL 82 zm_X8_thrownBy 3 := ⟨z_in 683 (by decide +kernel) (by decide +kernel), zn_X8, zw_X8_thrownBy, by decide +kernel, by decide +kernel, by decide⟩
theorem zk_X8_201 : z_lk RX8 201 zm_X8_isPart 1 := ⟨z_in 687 (by decide +kernel) (by decide +kernel), zn_X8, zw_X8_isPart, by decide +kernel, by decide +kernel, by decide⟩
theorem zq_X8_206 : Cond.constantLong RX8 206 (-9223372036854775808) ∈ z_tbl := z_in 690 (by decide +kernel) (by decide +kernel)
theorem zq_X8_208 : Cond.constantLong RX8 208 (11) ∈ z_tbl := z_in 691 (by decide +kernel) (by decide +kernel)
theorem zk_X8_210 : z_lk RX8 210 zm_X8_lowest 3 := ⟨z_in 692 (by decide +kernel) (by decide +kernel), zn_X8, zw_X8_lowest, by decide +kernel, by decide +kernel, by decide⟩
theorem zk_X8_340 : z_lk RX8 340 zm_J9_max_f86c9 2 := ⟨z_in 695 (by decide +kernel) (by decide +kernel), zn_J9, zw_J9_max_f86c9, by decide +kernel, by decide +kernel, by decide⟩
theorem zk_L_87 : z_lk RL 87 zm_X8_three 0 := ⟨z_in 698 (by decide +kernel) (by decide +kernel), zn_X8, zw_X8_three, by decide +kernel, by decide +kernel, by decide⟩
theorem zk_L_91 : z_lk RL 91 zm_X8_streak 3 := ⟨z_in 702 (by decide +kernel) (by decide +kernel), zn_X8, zw_X8_streak, by decide +kernel, by decide +kernel, by decide⟩
theorem zq_X8_214 : Cond.constantLong RX8 214 (12) ∈ z_tbl := z_in 706 (by decide +kernel) (by decide +kernel)
theorem zk_L_95 : z_lk RL 95 zm_X8_byTurns 3 := ⟨z_in 707 (by decide +kernel) (by decide +kernel), zn_X8, zw_X8_byTurns, by decide +kernel, by decide +kernel, by decide⟩
theorem zk_X8_216 : z_lk RX8 216 zm_X6_begin 2 := ⟨z_in 711 (by decide +kernel) (by decide +kernel), zn_X6, zw_X6_begin, by decide +kernel, by decide +kernel, by decide⟩
theorem zk_X6_29 : z_lk RX6 29 zm_X7_copyAll 1 := ⟨z_in 715 (by decide +kernel) (by decide +kernel), zn_X7, zw_X7_copyAll, by decide +kernel, by decide +kernel, by decide⟩
theorem zk_X6_33 : z_lk RX6 33 zm_X7_numberOf 2 := ⟨z_in 716 (by decide +kernel) (by decide +kernel), zn_X7, zw_X7_numberOf, by decide +kernel, by decide +kernel, by decide⟩
theorem zk_X8_219 : z_lk RX8 219 zm_X6_bestOdds 2 := ⟨z_in 717 (by decide +kernel) (by decide +kernel), zn_X6, zw_X6_bestOdds, by decide +kernel, by decide +kernel, by decide⟩
theorem zk_X6_43 : z_lk RX6 43 zm_X6_best 4 := ⟨z_in 721 (by decide +kernel) (by decide +kernel), zn_X6, zw_X6_best, by decide +kernel, by decide +kernel, by decide⟩
theorem zk_X6_47 : z_lk RX6 47 zm_X6_oddsAt 2 := ⟨z_in 725 (by decide +kernel) (by decide +kernel), zn_X6, zw_X6_oddsAt, by decide +kernel, by decide +kernel, by decide⟩
theorem zk_X6_59 : z_lk RX6 59 zm_X7_become 3 := ⟨z_in 729 (by decide +kernel) (by decide +kernel), zn_X7, zw_X7_become, by decide +kernel, by decide +kernel, by decide⟩
theorem zk_X6_63 : z_lk RX6 63 zm_X1_oddsOn 4 := ⟨z_in 730 (by decide +kernel) (by decide +kernel), zn_X1, zw_X1_oddsOn, by decide +kernel, by decide +kernel, by decide⟩
theorem zk_X6_40 : z_lk RX6 40 zm_X6_moved 2 := ⟨z_in 731 (by decide +kernel) (by decide +kernel), zn_X6, zw_X6_moved, by decide +kernel, by decide +kernel, by decide⟩
theorem zk_X6_56 : z_lk RX6 56 zm_J9_min_7cf53 2 := ⟨z_in 734 (by decide +kernel) (by decide +kernel), zn_J9, zw_J9_min_7cf53, by decide +kernel, by decide +kernel, by decide⟩
theorem zk_X6_51 : z_lk RX6 51 zm_J9_max_7cf53 2 := ⟨z_in 735 (by decide +kernel) (by decide +kernel), zn_J9, zw_J9_max_7cf53, by decide +kernel, by decide +kernel, by decide⟩
theorem zk_X8_223 : z_lk RX8 223 zm_X6_bestFirst 2 := ⟨z_in 736 (by decide +kernel) (by decide +kernel), zn_X6, zw_X6_bestFirst, by decide +kernel, by decide +kernel, by decide⟩
theorem zg_X6_37 : Cond.fieldLink RX6 37 RX6 "FIRST_LIKED" "[I" ∈ z_tbl := z_in 740 (by decide +kernel) (by decide +kernel)
theorem zk_L_99 : z_lk RL 99 zm_X8_drawn 4 := ⟨z_in 742 (by decide +kernel) (by decide +kernel), zn_X8, zw_X8_drawn, by decide +kernel, by decide +kernel, by decide⟩
theorem zk_X8_229 : z_lk RX8 229 zm_X3_beginAnew 1 := ⟨z_in 746 (by decide +kernel) (by decide +kernel), zn_X3, zw_X3_beginAnew, by decide +kernel, by decide +kernel, by decide⟩
theorem zk_L_103 : z_lk RL 103 zm_X8_match 1 := ⟨z_in 750 (by decide +kernel) (by decide +kernel), zn_X8, zw_X8_match, by decide +kernel, by decide +kernel, by decide⟩
theorem zk_X8_235 : z_lk RX8 235 zm_X7_draw 0 := ⟨z_in 754 (by decide +kernel) (by decide +kernel), zn_X7, zw_X7_draw, by decide +kernel, by decide +kernel, by decide⟩
theorem zk_X8_238 : z_lk RX8 238 zm_X7_settle 3 := ⟨z_in 755 (by decide +kernel) (by decide +kernel), zn_X7, zw_X7_settle, by decide +kernel, by decide +kernel, by decide⟩
theorem zk_L_107 : z_lk RL 107 zm_X8_lemonade 1 := ⟨z_in 756 (by decide +kernel) (by decide +kernel), zn_X8, zw_X8_lemonade, by decide +kernel, by decide +kernel, by decide⟩
theorem zk_X8_244 : z_lk RX8 244 zm_J9_max_7cf53 2 := ⟨z_in 760 (by decide +kernel) (by decide +kernel), zn_J9, zw_J9_max_7cf53, by decide +kernel, by decide +kernel, by decide⟩
theorem zk_L_111 : z_lk RL 111 zm_X8_day 0 := ⟨z_in 761 (by decide +kernel) (by decide +kernel), zn_X8, zw_X8_day, by decide +kernel, by decide +kernel, by decide⟩
theorem zk_X8_249 : z_lk RX8 249 zm_X7_countBeaten 0 := ⟨z_in 765 (by decide +kernel) (by decide +kernel), zn_X7, zw_X7_countBeaten, by decide +kernel, by decide +kernel, by decide⟩
theorem zk_X8_252 : z_lk RX8 252 zm_X7_endDay 0 := ⟨z_in 769 (by decide +kernel) (by decide +kernel), zn_X7, zw_X7_endDay, by decide +kernel, by decide +kernel, by decide⟩
theorem zk_L_115 : z_lk RL 115 zm_X8_led 1 := ⟨z_in 770 (by decide +kernel) (by decide +kernel), zn_X8, zw_X8_led, by decide +kernel, by decide +kernel, by decide⟩
theorem zk_L_119 : z_lk RL 119 zm_X8_image 0 := ⟨z_in 774 (by decide +kernel) (by decide +kernel), zn_X8, zw_X8_image, by decide +kernel, by decide +kernel, by decide⟩
theorem zk_X8_255 : z_lk RX8 255 zm_X7_copyAll 1 := ⟨z_in 778 (by decide +kernel) (by decide +kernel), zn_X7, zw_X7_copyAll, by decide +kernel, by decide +kernel, by decide⟩
theorem zk_L_123 : z_lk RL 123 zm_X8_back 0 := ⟨z_in 779 (by decide +kernel) (by decide +kernel), zn_X8, zw_X8_back, by decide +kernel, by decide +kernel, by decide⟩
theorem zk_X8_258 : z_lk RX8 258 zm_X7_layBack 1 := ⟨z_in 783 (by decide +kernel) (by decide +kernel), zn_X7, zw_X7_layBack, by decide +kernel, by decide +kernel, by decide⟩
theorem zk_L_127 : z_lk RL 127 zm_X8_undo 0 := ⟨z_in 784 (by decide +kernel) (by decide +kernel), zn_X8, zw_X8_undo, by decide +kernel, by decide +kernel, by decide⟩
theorem zk_X8_264 : z_lk RX8 264 zm_X0_undoOn 1 := ⟨z_in 788 (by decide +kernel) (by decide +kernel), zn_X0, zw_X0_undoOn, by decide +kernel, by decide +kernel, by decide⟩
theorem zk_X0_38 : z_lk RX0 38 zm_X7_become 3 := ⟨z_in 792 (by decide +kernel) (by decide +kernel), zn_X7, zw_X7_become, by decide +kernel, by decide +kernel, by decide⟩
theorem zk_L_131 : z_lk RL 131 zm_X8_redo 0 := ⟨z_in 793 (by decide +kernel) (by decide +kernel), zn_X8, zw_X8_redo, by decide +kernel, by decide +kernel, by decide⟩
theorem zk_X8_270 : z_lk RX8 270 zm_X0_redoOn 1 := ⟨z_in 797 (by decide +kernel) (by decide +kernel), zn_X0, zw_X0_redoOn, by decide +kernel, by decide +kernel, by decide⟩
theorem zk_L_135 : z_lk RL 135 zm_X8_body 1 := ⟨z_in 801 (by decide +kernel) (by decide +kernel), zn_X8, zw_X8_body, by decide +kernel, by decide +kernel, by decide⟩
theorem zk_X8_273 : z_lk RX8 273 zm_X5_isKind 1 := ⟨z_in 805 (by decide +kernel) (by decide +kernel), zn_X5, zw_X5_isKind, by decide +kernel, by decide +kernel, by decide⟩
theorem zk_X8_276 : z_lk RX8 276 zm_X5_add 1 := ⟨z_in 808 (by decide +kernel) (by decide +kernel), zn_X5, zw_X5_add, by decide +kernel, by decide +kernel, by decide⟩
theorem zk_L_139 : z_lk RL 139 zm_X8_act 3 := ⟨z_in 812 (by decide +kernel) (by decide +kernel), zn_X8, zw_X8_act, by decide +kernel, by decide +kernel, by decide⟩
theorem zk_X8_279 : z_lk RX8 279 zm_X5_perform 3 := ⟨z_in 816 (by decide +kernel) (by decide +kernel), zn_X5, zw_X5_perform, by decide +kernel, by decide +kernel, by decide⟩
theorem zk_X5_35 : z_lk RX5 35 zm_X5_has 1 := ⟨z_in 820 (by decide +kernel) (by decide +kernel), zn_X5, zw_X5_has, by decide +kernel, by decide +kernel, by decide⟩
theorem zk_X5_38 : z_lk RX5 38 zm_X5_own 3 := ⟨z_in 824 (by decide +kernel) (by decide +kernel), zn_X5, zw_X5_own, by decide +kernel, by decide +kernel, by decide⟩
theorem zk_X5_42 : z_lk RX5 42 zm_X5_from 4 := ⟨z_in 828 (by decide +kernel) (by decide +kernel), zn_X5, zw_X5_from, by decide +kernel, by decide +kernel, by decide⟩
theorem zk_X5_28 : z_lk RX5 28 zm_X5_isKind 1 := ⟨z_in 832 (by decide +kernel) (by decide +kernel), zn_X5, zw_X5_isKind, by decide +kernel, by decide +kernel, by decide⟩
theorem zg_X5_46 : Cond.fieldLink RX5 46 RX5 "BODIES" "[I" ∈ z_tbl := z_in 833 (by decide +kernel) (by decide +kernel)
theorem zg_X5_32 : Cond.fieldLink RX5 32 RX5 "ABOVE" "[I" ∈ z_tbl := z_in 835 (by decide +kernel) (by decide +kernel)
theorem zk_X5_49 : z_lk RX5 49 zm_X5_run 4 := ⟨z_in 837 (by decide +kernel) (by decide +kernel), zn_X5, zw_X5_run, by decide +kernel, by decide +kernel, by decide⟩
theorem zk_L_143 : z_lk RL 143 zm_X8_trace 1 := ⟨z_in 841 (by decide +kernel) (by decide +kernel), zn_X8, zw_X8_trace, by decide +kernel, by decide +kernel, by decide⟩
theorem zk_X8_282 : z_lk RX8 282 zm_X5_tracedAt 1 := ⟨z_in 845 (by decide +kernel) (by decide +kernel), zn_X5, zw_X5_tracedAt, by decide +kernel, by decide +kernel, by decide⟩
theorem zk_L_147 : z_lk RL 147 zm_X8_keep 2 := ⟨z_in 849 (by decide +kernel) (by decide +kernel), zn_X8, zw_X8_keep, by decide +kernel, by decide +kernel, by decide⟩
theorem zk_X8_285 : z_lk RX8 285 zm_X5_has 1 := ⟨z_in 853 (by decide +kernel) (by decide +kernel), zn_X5, zw_X5_has, by decide +kernel, by decide +kernel, by decide⟩
theorem zk_X8_286 : z_lk RX8 286 zm_X4_holdStool 1 := ⟨z_in 854 (by decide +kernel) (by decide +kernel), zn_X4, zw_X4_holdStool, by decide +kernel, by decide +kernel, by decide⟩
theorem zk_L_151 : z_lk RL 151 zm_X8_row 3 := ⟨z_in 858 (by decide +kernel) (by decide +kernel), zn_X8, zw_X8_row, by decide +kernel, by decide +kernel, by decide⟩
theorem zk_X8_290 : z_lk RX8 290 zm_X4_holdRow 2 := ⟨z_in 862 (by decide +kernel) (by decide +kernel), zn_X4, zw_X4_holdRow, by decide +kernel, by decide +kernel, by decide⟩
theorem zk_L_157 : z_lk RL 157 zm_X8_put 3 := ⟨z_in 866 (by decide +kernel) (by decide +kernel), zn_X8, zw_X8_put, by decide +kernel, by decide +kernel, by decide⟩
theorem zk_X8_294 : z_lk RX8 294 zm_X8_placeRefusal 2 := ⟨z_in 870 (by decide +kernel) (by decide +kernel), zn_X8, zw_X8_placeRefusal, by decide +kernel, by decide +kernel, by decide⟩
theorem zk_X8_301 : z_lk RX8 301 zm_X4_holdsRow 0 := ⟨z_in 874 (by decide +kernel) (by decide +kernel), zn_X4, zw_X4_holdsRow, by decide +kernel, by decide +kernel, by decide⟩
theorem zk_X8_304 : z_lk RX8 304 zm_X4_hasPlaces 2 := ⟨z_in 878 (by decide +kernel) (by decide +kernel), zn_X4, zw_X4_hasPlaces, by decide +kernel, by decide +kernel, by decide⟩
theorem zk_X8_297 : z_lk RX8 297 zm_X4_setAt 2 := ⟨z_in 879 (by decide +kernel) (by decide +kernel), zn_X4, zw_X4_setAt, by decide +kernel, by decide +kernel, by decide⟩
theorem zk_X4_29 : z_lk RX4 29 zm_X4_cut 1 := ⟨z_in 883 (by decide +kernel) (by decide +kernel), zn_X4, zw_X4_cut, by decide +kernel, by decide +kernel, by decide⟩
theorem zk_L_162 : z_lk RL 162 zm_X8_element 2 := ⟨z_in 887 (by decide +kernel) (by decide +kernel), zn_X8, zw_X8_element, by decide +kernel, by decide +kernel, by decide⟩
theorem zk_L_167 : z_lk RL 167 zm_X8_shift 5 := ⟨z_in 891 (by decide +kernel) (by decide +kernel), zn_X8, zw_X8_shift, by decide +kernel, by decide +kernel, by decide⟩
theorem zk_X8_311 : Cond.methodLink RX8 311 arraycopyName ∈ z_tbl := z_in 895 (by decide +kernel) (by decide +kernel)
theorem zk_L_172 : z_lk RL 172 zm_X8_taken 2 := ⟨z_in 896 (by decide +kernel) (by decide +kernel), zn_X8, zw_X8_taken, by decide +kernel, by decide +kernel, by decide⟩
theorem zk_X8_323 : z_lk RX8 323 zm_X5_isUnder 2 := ⟨z_in 900 (by decide +kernel) (by decide +kernel), zn_X5, zw_X5_isUnder, by decide +kernel, by decide +kernel, by decide⟩
theorem zk_L_176 : z_lk RL 176 zm_X8_count 1 := ⟨z_in 903 (by decide +kernel) (by decide +kernel), zn_X8, zw_X8_count, by decide +kernel, by decide +kernel, by decide⟩
theorem zk_X8_326 : z_lk RX8 326 zm_J6_bitCount_0f7a4 1 := ⟨z_in 907 (by decide +kernel) (by decide +kernel), zn_J6, zw_J6_bitCount_0f7a4, by decide +kernel, by decide +kernel, by decide⟩
theorem zk_L_12 : z_lk RL 12 zm_X9_init 0 := ⟨z_in 910 (by decide +kernel) (by decide +kernel), zn_X9, zw_X9_init, by decide +kernel, by decide +kernel, by decide⟩
theorem zk_X9_3 : Cond.methodLink RX9 3 Lib.objectInit ∈ z_tbl := z_in 913 (by decide +kernel) (by decide +kernel)
theorem zf_X9_9 : z_fl RX9 9 9 0 2 := ⟨RX9, TX9, _, rfl, by decide, rfl, z_in 914 (by decide +kernel) (by decide +kernel)⟩
theorem zp_X9_9 : z_pl RX9 9 9 0 2 (.array .int) true := ⟨RX9, TX9, _, rfl, by decide, rfl, z_in 914 (by decide +kernel) (by decide +kernel), rfl, by decide +kernel, fun h => by first | rfl | cases h⟩
theorem zf_X9_13 : z_fl RX9 13 9 1 2 := ⟨RX9, TX9, _, rfl, by decide, rfl, z_in 915 (by decide +kernel) (by decide +kernel)⟩
theorem zp_X9_13 : z_pl RX9 13 9 1 2 (.array .int) true := ⟨RX9, TX9, _, rfl, by decide, rfl, z_in 915 (by decide +kernel) (by decide +kernel), rfl, by decide +kernel, fun h => by first | rfl | cases h⟩
theorem zf_X9_16 : z_fl RX9 16 9 2 2 := ⟨RX9, TX9, _, rfl, by decide, rfl, z_in 916 (by decide +kernel) (by decide +kernel)⟩
theorem zp_X9_16 : z_pl RX9 16 9 2 2 (.array .int) true := ⟨RX9, TX9, _, rfl, by decide, rfl, z_in 916 (by decide +kernel) (by decide +kernel), rfl, by decide +kernel, fun h => by first | rfl | cases h⟩
theorem zf_X9_19 : z_fl RX9 19 9 3 2 := ⟨RX9, TX9, _, rfl, by decide, rfl, z_in 917 (by decide +kernel) (by decide +kernel)⟩
theorem zp_X9_19 : z_pl RX9 19 9 3 2 (.array .int) true := ⟨RX9, TX9, _, rfl, by decide, rfl, z_in 917 (by decide +kernel) (by decide +kernel), rfl, by decide +kernel, fun h => by first | rfl | cases h⟩
theorem zf_X9_90 : z_fl RX9 90 9 4 0 := ⟨RX9, TX9, _, rfl, by decide, rfl, z_in 918 (by decide +kernel) (by decide +kernel)⟩
theorem zp_X9_90 : z_pl RX9 90 9 4 0 .int false := ⟨RX9, TX9, _, rfl, by decide, rfl, z_in 918 (by decide +kernel) (by decide +kernel), rfl, by decide +kernel, fun h => by first | rfl | cases h⟩
theorem zf_X9_87 : z_fl RX9 87 9 5 0 := ⟨RX9, TX9, _, rfl, by decide, rfl, z_in 919 (by decide +kernel) (by decide +kernel)⟩
theorem zp_X9_87 : z_pl RX9 87 9 5 0 .int false := ⟨RX9, TX9, _, rfl, by decide, rfl, z_in 919 (by decide +kernel) (by decide +kernel), rfl, by decide +kernel, fun h => by first | rfl | cases h⟩
theorem zf_X9_93 : z_fl RX9 93 9 6 0 := ⟨RX9, TX9, _, rfl, by decide, rfl, z_in 920 (by decide +kernel) (by decide +kernel)⟩
theorem zp_X9_93 : z_pl RX9 93 9 6 0 .int false := ⟨RX9, TX9, _, rfl, by decide, rfl, z_in 920 (by decide +kernel) (by decide +kernel), rfl, by decide +kernel, fun h => by first | rfl | cases h⟩
theorem zf_X9_22 : z_fl RX9 22 9 7 2 := ⟨RX9, TX9, _, rfl, by decide, rfl, z_in 921 (by decide +kernel) (by decide +kernel)⟩
theorem zp_X9_22 : z_pl RX9 22 9 7 2 (.array .int) true := ⟨RX9, TX9, _, rfl, by decide, rfl, z_in 921 (by decide +kernel) (by decide +kernel), rfl, by decide +kernel, fun h => by first | rfl | cases h⟩
theorem zf_X9_141 : z_fl RX9 141 9 8 0 := ⟨RX9, TX9, _, rfl, by decide, rfl, z_in 922 (by decide +kernel) (by decide +kernel)⟩
theorem zp_X9_141 : z_pl RX9 141 9 8 0 .int false := ⟨RX9, TX9, _, rfl, by decide, rfl, z_in 922 (by decide +kernel) (by decide +kernel), rfl, by decide +kernel, fun h => by first | rfl | cases h⟩
theorem zf_X9_25 : z_fl RX9 25 9 9 2 := ⟨RX9, TX9, _, rfl, by decide, rfl, z_in 923 (by decide +kernel) (by decide +kernel)⟩
theorem zp_X9_25 : z_pl RX9 25 9 9 2 (.array .int) true := ⟨RX9, TX9, _, rfl, by decide, rfl, z_in 923 (by decide +kernel) (by decide +kernel), rfl, by decide +kernel, fun h => by first | rfl | cases h⟩
theorem zf_X9_83 : z_fl RX9 83 9 10 0 := ⟨RX9, TX9, _, rfl, by decide, rfl, z_in 924 (by decide +kernel) (by decide +kernel)⟩
theorem zp_X9_83 : z_pl RX9 83 9 10 0 .int false := ⟨RX9, TX9, _, rfl, by decide, rfl, z_in 924 (by decide +kernel) (by decide +kernel), rfl, by decide +kernel, fun h => by first | rfl | cases h⟩
theorem zf_X9_150 : z_fl RX9 150 9 11 0 := ⟨RX9, TX9, _, rfl, by decide, rfl, z_in 925 (by decide +kernel) (by decide +kernel)⟩
theorem zp_X9_150 : z_pl RX9 150 9 11 0 .int false := ⟨RX9, TX9, _, rfl, by decide, rfl, z_in 925 (by decide +kernel) (by decide +kernel), rfl, by decide +kernel, fun h => by first | rfl | cases h⟩
theorem zf_X9_144 : z_fl RX9 144 9 12 0 := ⟨RX9, TX9, _, rfl, by decide, rfl, z_in 926 (by decide +kernel) (by decide +kernel)⟩
theorem zp_X9_144 : z_pl RX9 144 9 12 0 .int false := ⟨RX9, TX9, _, rfl, by decide, rfl, z_in 926 (by decide +kernel) (by decide +kernel), rfl, by decide +kernel, fun h => by first | rfl | cases h⟩
theorem zf_X9_147 : z_fl RX9 147 9 13 0 := ⟨RX9, TX9, _, rfl, by decide, rfl, z_in 927 (by decide +kernel) (by decide +kernel)⟩
theorem zp_X9_147 : z_pl RX9 147 9 13 0 .int false := ⟨RX9, TX9, _, rfl, by decide, rfl, z_in 927 (by decide +kernel) (by decide +kernel), rfl, by decide +kernel, fun h => by first | rfl | cases h⟩
theorem zf_X9_153 : z_fl RX9 153 9 14 0 := ⟨RX9, TX9, _, rfl, by decide, rfl, z_in 928 (by decide +kernel) (by decide +kernel)⟩
theorem zp_X9_153 : z_pl RX9 153 9 14 0 .int false := ⟨RX9, TX9, _, rfl, by decide, rfl, z_in 928 (by decide +kernel) (by decide +kernel), rfl, by decide +kernel, fun h => by first | rfl | cases h⟩
theorem zf_X9_178 : z_fl RX9 178 9 15 0 := ⟨RX9, TX9, _, rfl, by decide, rfl, z_in 929 (by decide +kernel) (by decide +kernel)⟩
theorem zp_X9_178 : z_pl RX9 178 9 15 0 .int false := ⟨RX9, TX9, _, rfl, by decide, rfl, z_in 929 (by decide +kernel) (by decide +kernel), rfl, by decide +kernel, fun h => by first | rfl | cases h⟩
theorem zf_X9_28 : z_fl RX9 28 9 16 2 := ⟨RX9, TX9, _, rfl, by decide, rfl, z_in 930 (by decide +kernel) (by decide +kernel)⟩
theorem zp_X9_28 : z_pl RX9 28 9 16 2 (.array .int) true := ⟨RX9, TX9, _, rfl, by decide, rfl, z_in 930 (by decide +kernel) (by decide +kernel), rfl, by decide +kernel, fun h => by first | rfl | cases h⟩
theorem zf_X9_31 : z_fl RX9 31 9 17 2 := ⟨RX9, TX9, _, rfl, by decide, rfl, z_in 931 (by decide +kernel) (by decide +kernel)⟩
theorem zp_X9_31 : z_pl RX9 31 9 17 2 (.array .int) true := ⟨RX9, TX9, _, rfl, by decide, rfl, z_in 931 (by decide +kernel) (by decide +kernel), rfl, by decide +kernel, fun h => by first | rfl | cases h⟩
theorem zf_X9_34 : z_fl RX9 34 9 18 2 := ⟨RX9, TX9, _, rfl, by decide, rfl, z_in 932 (by decide +kernel) (by decide +kernel)⟩
theorem zp_X9_34 : z_pl RX9 34 9 18 2 (.array .int) true := ⟨RX9, TX9, _, rfl, by decide, rfl, z_in 932 (by decide +kernel) (by decide +kernel), rfl, by decide +kernel, fun h => by first | rfl | cases h⟩
theorem zf_X9_37 : z_fl RX9 37 9 19 2 := ⟨RX9, TX9, _, rfl, by decide, rfl, z_in 933 (by decide +kernel) (by decide +kernel)⟩
theorem zp_X9_37 : z_pl RX9 37 9 19 2 (.array .int) true := ⟨RX9, TX9, _, rfl, by decide, rfl, z_in 933 (by decide +kernel) (by decide +kernel), rfl, by decide +kernel, fun h => by first | rfl | cases h⟩
theorem zf_X9_194 : z_fl RX9 194 9 20 0 := ⟨RX9, TX9, _, rfl, by decide, rfl, z_in 934 (by decide +kernel) (by decide +kernel)⟩
theorem zp_X9_194 : z_pl RX9 194 9 20 0 .int false := ⟨RX9, TX9, _, rfl, by decide, rfl, z_in 934 (by decide +kernel) (by decide +kernel), rfl, by decide +kernel, fun h => by first | rfl | cases h⟩
theorem zf_X9_40 : z_fl RX9 40 9 21 2 := ⟨RX9, TX9, _, rfl, by decide, rfl, z_in 935 (by decide +kernel) (by decide +kernel)⟩
theorem zp_X9_40 : z_pl RX9 40 9 21 2 (.array .int) true := ⟨RX9, TX9, _, rfl, by decide, rfl, z_in 935 (by decide +kernel) (by decide +kernel), rfl, by decide +kernel, fun h => by first | rfl | cases h⟩
theorem zf_X9_43 : z_fl RX9 43 9 22 2 := ⟨RX9, TX9, _, rfl, by decide, rfl, z_in 936 (by decide +kernel) (by decide +kernel)⟩
theorem zp_X9_43 : z_pl RX9 43 9 22 2 (.array .int) true := ⟨RX9, TX9, _, rfl, by decide, rfl, z_in 936 (by decide +kernel) (by decide +kernel), rfl, by decide +kernel, fun h => by first | rfl | cases h⟩
theorem zf_X9_244 : z_fl RX9 244 9 23 0 := ⟨RX9, TX9, _, rfl, by decide, rfl, z_in 937 (by decide +kernel) (by decide +kernel)⟩
theorem zp_X9_244 : z_pl RX9 244 9 23 0 .int false := ⟨RX9, TX9, _, rfl, by decide, rfl, z_in 937 (by decide +kernel) (by decide +kernel), rfl, by decide +kernel, fun h => by first | rfl | cases h⟩
theorem zf_X9_46 : z_fl RX9 46 9 24 2 := ⟨RX9, TX9, _, rfl, by decide, rfl, z_in 938 (by decide +kernel) (by decide +kernel)⟩
theorem zp_X9_46 : z_pl RX9 46 9 24 2 (.array .int) true := ⟨RX9, TX9, _, rfl, by decide, rfl, z_in 938 (by decide +kernel) (by decide +kernel), rfl, by decide +kernel, fun h => by first | rfl | cases h⟩
theorem zf_X9_49 : z_fl RX9 49 9 25 2 := ⟨RX9, TX9, _, rfl, by decide, rfl, z_in 939 (by decide +kernel) (by decide +kernel)⟩
theorem zp_X9_49 : z_pl RX9 49 9 25 2 (.array .int) true := ⟨RX9, TX9, _, rfl, by decide, rfl, z_in 939 (by decide +kernel) (by decide +kernel), rfl, by decide +kernel, fun h => by first | rfl | cases h⟩
theorem zf_X9_52 : z_fl RX9 52 9 26 2 := ⟨RX9, TX9, _, rfl, by decide, rfl, z_in 940 (by decide +kernel) (by decide +kernel)⟩
theorem zp_X9_52 : z_pl RX9 52 9 26 2 (.array .int) true := ⟨RX9, TX9, _, rfl, by decide, rfl, z_in 940 (by decide +kernel) (by decide +kernel), rfl, by decide +kernel, fun h => by first | rfl | cases h⟩
theorem zf_X9_55 : z_fl RX9 55 9 27 2 := ⟨RX9, TX9, _, rfl, by decide, rfl, z_in 941 (by decide +kernel) (by decide +kernel)⟩
theorem zp_X9_55 : z_pl RX9 55 9 27 2 (.array .int) true := ⟨RX9, TX9, _, rfl, by decide, rfl, z_in 941 (by decide +kernel) (by decide +kernel), rfl, by decide +kernel, fun h => by first | rfl | cases h⟩
theorem zf_X9_285 : z_fl RX9 285 9 28 3 := ⟨RX9, TX9, _, rfl, by decide, rfl, z_in 942 (by decide +kernel) (by decide +kernel)⟩
theorem zp_X9_285 : z_pl RX9 285 9 28 3 .boolean false := ⟨RX9, TX9, _, rfl, by decide, rfl, z_in 942 (by decide +kernel) (by decide +kernel), rfl, by decide +kernel, fun h => by first | rfl | cases h⟩
theorem zf_X9_289 : z_fl RX9 289 9 29 0 := ⟨RX9, TX9, _, rfl, by decide, rfl, z_in 943 (by decide +kernel) (by decide +kernel)⟩
theorem zp_X9_289 : z_pl RX9 289 9 29 0 .int false := ⟨RX9, TX9, _, rfl, by decide, rfl, z_in 943 (by decide +kernel) (by decide +kernel), rfl, by decide +kernel, fun h => by first | rfl | cases h⟩
theorem zf_X9_58 : z_fl RX9 58 9 30 2 := ⟨RX9, TX9, _, rfl, by decide, rfl, z_in 944 (by decide +kernel) (by decide +kernel)⟩
theorem zp_X9_58 : z_pl RX9 58 9 30 2 (.array .int) true := ⟨RX9, TX9, _, rfl, by decide, rfl, z_in 944 (by decide +kernel) (by decide +kernel), rfl, by decide +kernel, fun h => by first | rfl | cases h⟩
theorem zf_X9_61 : z_fl RX9 61 9 31 2 := ⟨RX9, TX9, _, rfl, by decide, rfl, z_in 945 (by decide +kernel) (by decide +kernel)⟩
theorem zp_X9_61 : z_pl RX9 61 9 31 2 (.array .int) true := ⟨RX9, TX9, _, rfl, by decide, rfl, z_in 945 (by decide +kernel) (by decide +kernel), rfl, by decide +kernel, fun h => by first | rfl | cases h⟩
theorem zf_X9_292 : z_fl RX9 292 9 32 0 := ⟨RX9, TX9, _, rfl, by decide, rfl, z_in 946 (by decide +kernel) (by decide +kernel)⟩
theorem zp_X9_292 : z_pl RX9 292 9 32 0 .int false := ⟨RX9, TX9, _, rfl, by decide, rfl, z_in 946 (by decide +kernel) (by decide +kernel), rfl, by decide +kernel, fun h => by first | rfl | cases h⟩
theorem zf_X9_64 : z_fl RX9 64 9 33 2 := ⟨RX9, TX9, _, rfl, by decide, rfl, z_in 947 (by decide +kernel) (by decide +kernel)⟩
theorem zp_X9_64 : z_pl RX9 64 9 33 2 (.array .int) true := ⟨RX9, TX9, _, rfl, by decide, rfl, z_in 947 (by decide +kernel) (by decide +kernel), rfl, by decide +kernel, fun h => by first | rfl | cases h⟩
theorem zf_X9_67 : z_fl RX9 67 9 34 2 := ⟨RX9, TX9, _, rfl, by decide, rfl, z_in 948 (by decide +kernel) (by decide +kernel)⟩
theorem zp_X9_67 : z_pl RX9 67 9 34 2 (.array .int) true := ⟨RX9, TX9, _, rfl, by decide, rfl, z_in 948 (by decide +kernel) (by decide +kernel), rfl, by decide +kernel, fun h => by first | rfl | cases h⟩
theorem zf_X9_297 : z_fl RX9 297 9 35 0 := ⟨RX9, TX9, _, rfl, by decide, rfl, z_in 949 (by decide +kernel) (by decide +kernel)⟩
theorem zp_X9_297 : z_pl RX9 297 9 35 0 .int false := ⟨RX9, TX9, _, rfl, by decide, rfl, z_in 949 (by decide +kernel) (by decide +kernel), rfl, by decide +kernel, fun h => by first | rfl | cases h⟩
theorem zf_X9_312 : z_fl RX9 312 9 36 0 := ⟨RX9, TX9, _, rfl, by decide, rfl, z_in 950 (by decide +kernel) (by decide +kernel)⟩
theorem zp_X9_312 : z_pl RX9 312 9 36 0 .int false := ⟨RX9, TX9, _, rfl, by decide, rfl, z_in 950 (by decide +kernel) (by decide +kernel), rfl, by decide +kernel, fun h => by first | rfl | cases h⟩
theorem zf_X9_306 : z_fl RX9 306 9 37 0 := ⟨RX9, TX9, _, rfl, by decide, rfl, z_in 951 (by decide +kernel) (by decide +kernel)⟩
theorem zp_X9_306 : z_pl RX9 306 9 37 0 .int false := ⟨RX9, TX9, _, rfl, by decide, rfl, z_in 951 (by decide +kernel) (by decide +kernel), rfl, by decide +kernel, fun h => by first | rfl | cases h⟩
theorem zf_X9_70 : z_fl RX9 70 9 38 2 := ⟨RX9, TX9, _, rfl, by decide, rfl, z_in 952 (by decide +kernel) (by decide +kernel)⟩
theorem zp_X9_70 : z_pl RX9 70 9 38 2 (.array .int) true := ⟨RX9, TX9, _, rfl, by decide, rfl, z_in 952 (by decide +kernel) (by decide +kernel), rfl, by decide +kernel, fun h => by first | rfl | cases h⟩
theorem zf_X9_73 : z_fl RX9 73 9 39 2 := ⟨RX9, TX9, _, rfl, by decide, rfl, z_in 953 (by decide +kernel) (by decide +kernel)⟩
theorem zp_X9_73 : z_pl RX9 73 9 39 2 (.array .int) true := ⟨RX9, TX9, _, rfl, by decide, rfl, z_in 953 (by decide +kernel) (by decide +kernel), rfl, by decide +kernel, fun h => by first | rfl | cases h⟩
theorem zf_X9_76 : z_fl RX9 76 9 40 2 := ⟨RX9, TX9, _, rfl, by decide, rfl, z_in 954 (by decide +kernel) (by decide +kernel)⟩
theorem zp_X9_76 : z_pl RX9 76 9 40 2 (.array .long) true := ⟨RX9, TX9, _, rfl, by decide, rfl, z_in 954 (by decide +kernel) (by decide +kernel), rfl, by decide +kernel, fun h => by first | rfl | cases h⟩
theorem zf_X9_80 : z_fl RX9 80 9 41 2 := ⟨RX9, TX9, _, rfl, by decide, rfl, z_in 955 (by decide +kernel) (by decide +kernel)⟩
theorem zp_X9_80 : z_pl RX9 80 9 41 2 (.array .long) true := ⟨RX9, TX9, _, rfl, by decide, rfl, z_in 955 (by decide +kernel) (by decide +kernel), rfl, by decide +kernel, fun h => by first | rfl | cases h⟩
theorem zk_L_130 : z_lk RL 130 zm_X9_undo 0 := ⟨z_in 1041 (by decide +kernel) (by decide +kernel), zn_X9, zw_X9_undo, by decide +kernel, by decide +kernel, by decide⟩
theorem zk_L_134 : z_lk RL 134 zm_X9_redo 0 := ⟨z_in 1045 (by decide +kernel) (by decide +kernel), zn_X9, zw_X9_redo, by decide +kernel, by decide +kernel, by decide⟩
theorem zk_L_17 : z_lk RL 17 zm_X9_player 1 := ⟨z_in 1049 (by decide +kernel) (by decide +kernel), zn_X9, zw_X9_player, by decide +kernel, by decide +kernel, by decide⟩
theorem zk_X9_106 : z_lk RX9 106 zm_X9_mayCome 3 := ⟨z_in 1053 (by decide +kernel) (by decide +kernel), zn_X9, zw_X9_mayCome, by decide +kernel, by decide +kernel, by decide⟩
theorem zq_X9_100 : Cond.constantLong RX9 100 (9) ∈ z_tbl := z_in 1056 (by decide +kernel) (by decide +kernel)
theorem zk_X9_96 : z_lk RX9 96 zm_X9_within 3 := ⟨z_in 1057 (by decide +kernel) (by decide +kernel), zn_X9, zw_X9_within, by decide +kernel, by decide +kernel, by decide⟩
theorem zq_X9_102 : Cond.constantLong RX9 102 (99) ∈ z_tbl := z_in 1060 (by decide +kernel) (by decide +kernel)
theorem zq_X9_104 : Cond.constantLong RX9 104 (255) ∈ z_tbl := z_in 1061 (by decide +kernel) (by decide +kernel)
theorem zk_X9_109 : z_lk RX9 109 zm_X9_adds 3 := ⟨z_in 1062 (by decide +kernel) (by decide +kernel), zn_X9, zw_X9_adds, by decide +kernel, by decide +kernel, by decide⟩
theorem zk_L_22 : z_lk RL 22 zm_X9_players 3 := ⟨z_in 1066 (by decide +kernel) (by decide +kernel), zn_X9, zw_X9_players, by decide +kernel, by decide +kernel, by decide⟩
theorem zk_X9_113 : z_lk RX9 113 zm_X9_isShelf 1 := ⟨z_in 1070 (by decide +kernel) (by decide +kernel), zn_X9, zw_X9_isShelf, by decide +kernel, by decide +kernel, by decide⟩
theorem zq_X9_127 : Cond.constantLong RX9 127 (5) ∈ z_tbl := z_in 1073 (by decide +kernel) (by decide +kernel)
theorem zq_X9_117 : Cond.constantLong RX9 117 (10) ∈ z_tbl := z_in 1074 (by decide +kernel) (by decide +kernel)
theorem zk_L_26 : z_lk RL 26 zm_X9_mend 3 := ⟨z_in 1075 (by decide +kernel) (by decide +kernel), zn_X9, zw_X9_mend, by decide +kernel, by decide +kernel, by decide⟩
theorem zk_X9_129 : z_lk RX9 129 zm_X9_placeOf 2 := ⟨z_in 1079 (by decide +kernel) (by decide +kernel), zn_X9, zw_X9_placeOf, by decide +kernel, by decide +kernel, by decide⟩
theorem zq_X9_119 : Cond.constantLong RX9 119 (3) ∈ z_tbl := z_in 1083 (by decide +kernel) (by decide +kernel)
theorem zk_X9_121 : z_lk RX9 121 zm_X9_isOne 1 := ⟨z_in 1084 (by decide +kernel) (by decide +kernel), zn_X9, zw_X9_isOne, by decide +kernel, by decide +kernel, by decide⟩
theorem zq_X9_125 : Cond.constantLong RX9 125 (4) ∈ z_tbl := z_in 1088 (by decide +kernel) (by decide +kernel)
theorem zk_X9_133 : z_lk RX9 133 zm_X9_mayBecome 2 := ⟨z_in 1089 (by decide +kernel) (by decide +kernel), zn_X9, zw_X9_mayBecome, by decide +kernel, by decide +kernel, by decide⟩
theorem zk_X9_137 : z_lk RX9 137 zm_X9_becomes 2 := ⟨z_in 1092 (by decide +kernel) (by decide +kernel), zn_X9, zw_X9_becomes, by decide +kernel, by decide +kernel, by decide⟩
theorem zq_X9_140 : Cond.constant RX9 140 (-2000000000) ∈ z_tbl := z_in 1096 (by decide +kernel) (by decide +kernel)
theorem zk_L_31 : z_lk RL 31 zm_X9_of 2 := ⟨z_in 1097 (by decide +kernel) (by decide +kernel), zn_X9, zw_X9_of, by decide +kernel, by decide +kernel, by decide⟩
theorem zk_L_35 : z_lk RL 35 zm_X9_feed 1 := ⟨z_in 1101 (by decide +kernel) (by decide +kernel), zn_X9, zw_X9_feed, by decide +kernel, by decide +kernel, by decide⟩
theorem zk_L_40 : z_lk RL 40 zm_X9_law 0 := ⟨z_in 1105 (by decide +kernel) (by decide +kernel), zn_X9, zw_X9_law, by decide +kernel, by decide +kernel, by decide⟩
theorem zk_X9_191 : z_lk RX9 191 zm_X9_workOut 2 := ⟨z_in 1109 (by decide +kernel) (by decide +kernel), zn_X9, zw_X9_workOut, by decide +kernel, by decide +kernel, by decide⟩
theorem zk_X9_184 : z_lk RX9 184 zm_X9_either 0 := ⟨z_in 1113 (by decide +kernel) (by decide +kernel), zn_X9, zw_X9_either, by decide +kernel, by decide +kernel, by decide⟩
theorem zk_X9_160 : z_lk RX9 160 zm_X9_both 0 := ⟨z_in 1117 (by decide +kernel) (by decide +kernel), zn_X9, zw_X9_both, by decide +kernel, by decide +kernel, by decide⟩
theorem zk_X9_166 : z_lk RX9 166 zm_X9_compared 0 := ⟨z_in 1121 (by decide +kernel) (by decide +kernel), zn_X9, zw_X9_compared, by decide +kernel, by decide +kernel, by decide⟩
theorem zk_X9_169 : z_lk RX9 169 zm_X9_sums 0 := ⟨z_in 1125 (by decide +kernel) (by decide +kernel), zn_X9, zw_X9_sums, by decide +kernel, by decide +kernel, by decide⟩
theorem zk_X9_172 : z_lk RX9 172 zm_X9_product 0 := ⟨z_in 1129 (by decide +kernel) (by decide +kernel), zn_X9, zw_X9_product, by decide +kernel, by decide +kernel, by decide⟩
theorem zk_X9_175 : z_lk RX9 175 zm_X9_one 0 := ⟨z_in 1133 (by decide +kernel) (by decide +kernel), zn_X9, zw_X9_one, by decide +kernel, by decide +kernel, by decide⟩
theorem zk_X9_156 : z_lk RX9 156 zm_X9_byteAt 0 := ⟨z_in 1137 (by decide +kernel) (by decide +kernel), zn_X9, zw_X9_byteAt, by decide +kernel, by decide +kernel, by decide⟩
theorem zk_X9_181 : z_lk RX9 181 zm_X9_wrong 0 := ⟨z_in 1141 (by decide +kernel) (by decide +kernel), zn_X9, zw_X9_wrong, by decide +kernel, by decide +kernel, by decide⟩
theorem zk_X9_163 : z_lk RX9 163 zm_X9_takes 1 := ⟨z_in 1145 (by decide +kernel) (by decide +kernel), zn_X9, zw_X9_takes, by decide +kernel, by decide +kernel, by decide⟩
theorem zk_X9_187 : z_lk RX9 187 zm_X9_nameOf 1 := ⟨z_in 1149 (by decide +kernel) (by decide +kernel), zn_X9, zw_X9_nameOf, by decide +kernel, by decide +kernel, by decide⟩
theorem zk_L_44 : z_lk RL 44 zm_X9_odds 1 := ⟨z_in 1152 (by decide +kernel) (by decide +kernel), zn_X9, zw_X9_odds, by decide +kernel, by decide +kernel, by decide⟩
theorem zk_X9_203 : z_lk RX9 203 zm_X9_isAbu 1 := ⟨z_in 1156 (by decide +kernel) (by decide +kernel), zn_X9, zw_X9_isAbu, by decide +kernel, by decide +kernel, by decide⟩
theorem zk_X9_200 : z_lk RX9 200 zm_X9_areThree 3 := ⟨z_in 1160 (by decide +kernel) (by decide +kernel), zn_X9, zw_X9_areThree, by decide +kernel, by decide +kernel, by decide⟩
theorem zk_X9_206 : z_lk RX9 206 zm_X9_begins 0 := ⟨z_in 1164 (by decide +kernel) (by decide +kernel), zn_X9, zw_X9_begins, by decide +kernel, by decide +kernel, by decide⟩
theorem zk_X9_209 : z_lk RX9 209 zm_X9_oddsOf 3 := ⟨z_in 1168 (by decide +kernel) (by decide +kernel), zn_X9, zw_X9_oddsOf, by decide +kernel, by decide +kernel, by decide⟩
theorem zk_X9_197 : z_lk RX9 197 zm_X9_bitsOf 1 := ⟨z_in 1172 (by decide +kernel) (by decide +kernel), zn_X9, zw_X9_bitsOf, by decide +kernel, by decide +kernel, by decide⟩
theorem zk_L_48 : z_lk RL 48 zm_X9_judges 0 := ⟨z_in 1175 (by decide +kernel) (by decide +kernel), zn_X9, zw_X9_judges, by decide +kernel, by decide +kernel, by decide⟩
theorem zk_X9_213 : z_lk RX9 213 zm_X9_judgesNow 0 := ⟨z_in 1179 (by decide +kernel) (by decide +kernel), zn_X9, zw_X9_judgesNow, by decide +kernel, by decide +kernel, by decide⟩
theorem zk_L_52 : z_lk RL 52 zm_X9_bestJudge 1 := ⟨z_in 1183 (by decide +kernel) (by decide +kernel), zn_X9, zw_X9_bestJudge, by decide +kernel, by decide +kernel, by decide⟩
theorem zk_X9_216 : z_lk RX9 216 zm_X9_isIn 2 := ⟨z_in 1187 (by decide +kernel) (by decide +kernel), zn_X9, zw_X9_isIn, by decide +kernel, by decide +kernel, by decide⟩
theorem zk_L_56 : z_lk RL 56 zm_X9_held 1 := ⟨z_in 1190 (by decide +kernel) (by decide +kernel), zn_X9, zw_X9_held, by decide +kernel, by decide +kernel, by decide⟩
theorem zk_X9_233 : z_lk RX9 233 zm_X9_rowIs 2 := ⟨z_in 1194 (by decide +kernel) (by decide +kernel), zn_X9, zw_X9_rowIs, by decide +kernel, by decide +kernel, by decide⟩
theorem zk_X9_236 : z_lk RX9 236 zm_X9_goesCard 1 := ⟨z_in 1198 (by decide +kernel) (by decide +kernel), zn_X9, zw_X9_goesCard, by decide +kernel, by decide +kernel, by decide⟩
theorem zk_X9_223 : z_lk RX9 223 zm_X9_isNext 2 := ⟨z_in 1202 (by decide +kernel) (by decide +kernel), zn_X9, zw_X9_isNext, by decide +kernel, by decide +kernel, by decide⟩
theorem zk_X9_219 : z_lk RX9 219 zm_X9_canBeHeld 3 := ⟨z_in 1206 (by decide +kernel) (by decide +kernel), zn_X9, zw_X9_canBeHeld, by decide +kernel, by decide +kernel, by decide⟩
theorem zk_X9_226 : z_lk RX9 226 zm_X9_told 3 := ⟨z_in 1210 (by decide +kernel) (by decide +kernel), zn_X9, zw_X9_told, by decide +kernel, by decide +kernel, by decide⟩
theorem zk_X9_229 : z_lk RX9 229 zm_X9_isHeld 4 := ⟨z_in 1214 (by decide +kernel) (by decide +kernel), zn_X9, zw_X9_isHeld, by decide +kernel, by decide +kernel, by decide⟩
theorem zk_L_60 : z_lk RL 60 zm_X9_loses 1 := ⟨z_in 1218 (by decide +kernel) (by decide +kernel), zn_X9, zw_X9_loses, by decide +kernel, by decide +kernel, by decide⟩
theorem zk_L_65 : z_lk RL 65 zm_X9_behind 4 := ⟨z_in 1222 (by decide +kernel) (by decide +kernel), zn_X9, zw_X9_behind, by decide +kernel, by decide +kernel, by decide⟩
theorem zq_X9_239 : Cond.constantLong RX9 239 (20) ∈ z_tbl := z_in 1226 (by decide +kernel) (by decide +kernel)
theorem zk_X9_241 : z_lk RX9 241 zm_X9_endsDay 0 := ⟨z_in 1227 (by decide +kernel) (by decide +kernel), zn_X9, zw_X9_endsDay, by decide +kernel, by decide +kernel, by decide⟩
theorem zk_L_69 : z_lk RL 69 zm_X9_atOnce 1 := ⟨z_in 1231 (by decide +kernel) (by decide +kernel), zn_X9, zw_X9_atOnce, by decide +kernel, by decide +kernel, by decide⟩
theorem zk_X9_247 : z_lk RX9 247 zm_X9_triesOnce 3 := ⟨z_in 1235 (by decide +kernel) (by decide +kernel), zn_X9, zw_X9_triesOnce, by decide +kernel, by decide +kernel, by decide⟩
theorem zk_L_73 : z_lk RL 73 zm_X9_tomorrow 1 := ⟨z_in 1239 (by decide +kernel) (by decide +kernel), zn_X9, zw_X9_tomorrow, by decide +kernel, by decide +kernel, by decide⟩
theorem zq_X9_250 : Cond.constant RX9 250 (1000000) ∈ z_tbl := z_in 1243 (by decide +kernel) (by decide +kernel)
theorem zk_L_77 : z_lk RL 77 zm_X9_order 2 := ⟨z_in 1244 (by decide +kernel) (by decide +kernel), zn_X9, zw_X9_order, by decide +kernel, by decide +kernel, by decide⟩
theorem zk_X9_251 : z_lk RX9 251 zm_X9_takesResults 1 := ⟨z_in 1248 (by decide +kernel) (by decide +kernel), zn_X9, zw_X9_takesResults, by decide +kernel, by decide +kernel, by decide⟩
theorem zk_X9_255 : z_lk RX9 255 zm_X9_upsetBy 2 := ⟨z_in 1252 (by decide +kernel) (by decide +kernel), zn_X9, zw_X9_upsetBy, by decide +kernel, by decide +kernel, by decide⟩
theorem zk_L_81 : z_lk RL 81 zm_X9_ring 1 := ⟨z_in 1256 (by decide +kernel) (by decide +kernel), zn_X9, zw_X9_ring, by decide +kernel, by decide +kernel, by decide⟩
theorem zk_L_86 : z_lk RL 86 zm_X9_thrownBy 3 := ⟨z_in 1260 (by decide +kernel) (by decide +kernel), zn_X9, zw_X9_thrownBy, by decide +kernel, by decide +kernel, by decide⟩
theorem zq_X9_260 : Cond.constantLong RX9 260 (-9223372036854775808) ∈ z_tbl := z_in 1264 (by decide +kernel) (by decide +kernel)
theorem zq_X9_262 : Cond.constantLong RX9 262 (11) ∈ z_tbl := z_in 1265 (by decide +kernel) (by decide +kernel)
theorem zk_X9_264 : z_lk RX9 264 zm_X9_partOf 3 := ⟨z_in 1266 (by decide +kernel) (by decide +kernel), zn_X9, zw_X9_partOf, by decide +kernel, by decide +kernel, by decide⟩
theorem zk_L_90 : z_lk RL 90 zm_X9_three 0 := ⟨z_in 1269 (by decide +kernel) (by decide +kernel), zn_X9, zw_X9_three, by decide +kernel, by decide +kernel, by decide⟩
theorem zk_L_94 : z_lk RL 94 zm_X9_streak 3 := ⟨z_in 1273 (by decide +kernel) (by decide +kernel), zn_X9, zw_X9_streak, by decide +kernel, by decide +kernel, by decide⟩
theorem zq_X9_268 : Cond.constantLong RX9 268 (6) ∈ z_tbl := z_in 1277 (by decide +kernel) (by decide +kernel)
theorem zq_X9_270 : Cond.constantLong RX9 270 (12) ∈ z_tbl := z_in 1278 (by decide +kernel) (by decide +kernel)
theorem zk_L_98 : z_lk RL 98 zm_X9_byTurns 3 := ⟨z_in 1279 (by decide +kernel) (by decide +kernel), zn_X9, zw_X9_byTurns, by decide +kernel, by decide +kernel, by decide⟩
theorem zk_X9_275 : z_lk RX9 275 zm_X9_playsFrom 4 := ⟨z_in 1283 (by decide +kernel) (by decide +kernel), zn_X9, zw_X9_playsFrom, by decide +kernel, by decide +kernel, by decide⟩
theorem zk_X9_272 : z_lk RX9 272 zm_X9_soured 2 := ⟨z_in 1287 (by decide +kernel) (by decide +kernel), zn_X9, zw_X9_soured, by decide +kernel, by decide +kernel, by decide⟩
theorem zk_L_102 : z_lk RL 102 zm_X9_drawn 4 := ⟨z_in 1290 (by decide +kernel) (by decide +kernel), zn_X9, zw_X9_drawn, by decide +kernel, by decide +kernel, by decide⟩
theorem zq_X9_279 : Cond.constantLong RX9 279 (30) ∈ z_tbl := z_in 1294 (by decide +kernel) (by decide +kernel)
theorem zq_X9_281 : Cond.constant RX9 281 (1103515245) ∈ z_tbl := z_in 1295 (by decide +kernel) (by decide +kernel)
theorem zk_L_106 : z_lk RL 106 zm_X9_match 1 := ⟨z_in 1296 (by decide +kernel) (by decide +kernel), zn_X9, zw_X9_match, by decide +kernel, by decide +kernel, by decide⟩
theorem zk_X9_282 : z_lk RX9 282 zm_X9_keepsAll 0 := ⟨z_in 1300 (by decide +kernel) (by decide +kernel), zn_X9, zw_X9_keepsAll, by decide +kernel, by decide +kernel, by decide⟩
theorem zk_L_110 : z_lk RL 110 zm_X9_lemonade 1 := ⟨z_in 1304 (by decide +kernel) (by decide +kernel), zn_X9, zw_X9_lemonade, by decide +kernel, by decide +kernel, by decide⟩
theorem zk_L_114 : z_lk RL 114 zm_X9_day 0 := ⟨z_in 1308 (by decide +kernel) (by decide +kernel), zn_X9, zw_X9_day, by decide +kernel, by decide +kernel, by decide⟩
theorem zk_L_118 : z_lk RL 118 zm_X9_led 1 := ⟨z_in 1312 (by decide +kernel) (by decide +kernel), zn_X9, zw_X9_led, by decide +kernel, by decide +kernel, by decide⟩
theorem zk_L_122 : z_lk RL 122 zm_X9_image 0 := ⟨z_in 1316 (by decide +kernel) (by decide +kernel), zn_X9, zw_X9_image, by decide +kernel, by decide +kernel, by decide⟩
theorem zk_L_126 : z_lk RL 126 zm_X9_back 0 := ⟨z_in 1320 (by decide +kernel) (by decide +kernel), zn_X9, zw_X9_back, by decide +kernel, by decide +kernel, by decide⟩
theorem zk_L_138 : z_lk RL 138 zm_X9_body 1 := ⟨z_in 1324 (by decide +kernel) (by decide +kernel), zn_X9, zw_X9_body, by decide +kernel, by decide +kernel, by decide⟩
theorem zq_X9_295 : Cond.constantLong RX9 295 (7) ∈ z_tbl := z_in 1328 (by decide +kernel) (by decide +kernel)
theorem zk_L_142 : z_lk RL 142 zm_X9_act 3 := ⟨z_in 1329 (by decide +kernel) (by decide +kernel), zn_X9, zw_X9_act, by decide +kernel, by decide +kernel, by decide⟩
theorem zk_X9_321 : z_lk RX9 321 zm_X9_isBody 1 := ⟨z_in 1333 (by decide +kernel) (by decide +kernel), zn_X9, zw_X9_isBody, by decide +kernel, by decide +kernel, by decide⟩
theorem zk_X9_303 : z_lk RX9 303 zm_X9_judgesAs 2 := ⟨z_in 1337 (by decide +kernel) (by decide +kernel), zn_X9, zw_X9_judgesAs, by decide +kernel, by decide +kernel, by decide⟩
theorem zk_X9_300 : z_lk RX9 300 zm_X9_runs 1 := ⟨z_in 1341 (by decide +kernel) (by decide +kernel), zn_X9, zw_X9_runs, by decide +kernel, by decide +kernel, by decide⟩
theorem zk_X9_309 : z_lk RX9 309 zm_X9_callsAs 2 := ⟨z_in 1345 (by decide +kernel) (by decide +kernel), zn_X9, zw_X9_callsAs, by decide +kernel, by decide +kernel, by decide⟩
theorem zk_X9_315 : z_lk RX9 315 zm_X9_losesAs 2 := ⟨z_in 1349 (by decide +kernel) (by decide +kernel), zn_X9, zw_X9_losesAs, by decide +kernel, by decide +kernel, by decide⟩
theorem zk_X9_318 : z_lk RX9 318 zm_X9_tellsAs 2 := ⟨z_in 1353 (by decide +kernel) (by decide +kernel), zn_X9, zw_X9_tellsAs, by decide +kernel, by decide +kernel, by decide⟩
theorem zk_L_146 : z_lk RL 146 zm_X9_trace 1 := ⟨z_in 1357 (by decide +kernel) (by decide +kernel), zn_X9, zw_X9_trace, by decide +kernel, by decide +kernel, by decide⟩
theorem zk_L_150 : z_lk RL 150 zm_X9_keep 2 := ⟨z_in 1361 (by decide +kernel) (by decide +kernel), zn_X9, zw_X9_keep, by decide +kernel, by decide +kernel, by decide⟩
theorem zk_L_154 : z_lk RL 154 zm_X9_row 3 := ⟨z_in 1365 (by decide +kernel) (by decide +kernel), zn_X9, zw_X9_row, by decide +kernel, by decide +kernel, by decide⟩
theorem zk_L_161 : z_lk RL 161 zm_X9_put 3 := ⟨z_in 1369 (by decide +kernel) (by decide +kernel), zn_X9, zw_X9_put, by decide +kernel, by decide +kernel, by decide⟩
theorem zk_X9_324 : z_lk RX9 324 zm_X9_refusal 2 := ⟨z_in 1373 (by decide +kernel) (by decide +kernel), zn_X9, zw_X9_refusal, by decide +kernel, by decide +kernel, by decide⟩
theorem zk_X9_327 : z_lk RX9 327 zm_X9_asSort 2 := ⟨z_in 1377 (by decide +kernel) (by decide +kernel), zn_X9, zw_X9_asSort, by decide +kernel, by decide +kernel, by decide⟩
theorem zk_L_166 : z_lk RL 166 zm_X9_element 2 := ⟨z_in 1380 (by decide +kernel) (by decide +kernel), zn_X9, zw_X9_element, by decide +kernel, by decide +kernel, by decide⟩
theorem zk_L_171 : z_lk RL 171 zm_X9_shift 5 := ⟨z_in 1384 (by decide +kernel) (by decide +kernel), zn_X9, zw_X9_shift, by decide +kernel, by decide +kernel, by decide⟩
theorem zk_L_175 : z_lk RL 175 zm_X9_taken 2 := ⟨z_in 1388 (by decide +kernel) (by decide +kernel), zn_X9, zw_X9_taken, by decide +kernel, by decide +kernel, by decide⟩
theorem zk_X9_331 : z_lk RX9 331 zm_X9_kindOf 1 := ⟨z_in 1392 (by decide +kernel) (by decide +kernel), zn_X9, zw_X9_kindOf, by decide +kernel, by decide +kernel, by decide⟩
theorem zk_X9_334 : z_lk RX9 334 zm_X9_above 1 := ⟨z_in 1396 (by decide +kernel) (by decide +kernel), zn_X9, zw_X9_above, by decide +kernel, by decide +kernel, by decide⟩
theorem zk_L_179 : z_lk RL 179 zm_X9_count 1 := ⟨z_in 1399 (by decide +kernel) (by decide +kernel), zn_X9, zw_X9_count, by decide +kernel, by decide +kernel, by decide⟩
theorem zk_X9_337 : z_lk RX9 337 zm_X9_judges 0 := ⟨z_in 1403 (by decide +kernel) (by decide +kernel), zn_X9, zw_X9_judges, by decide +kernel, by decide +kernel, by decide⟩
theorem zq_L_155 : Cond.constantLong RL 155 (4294967295) ∈ z_tbl := z_in 1404 (by decide +kernel) (by decide +kernel)
theorem zk_copy : Cond.native arraycopyName ∈ z_tbl ∧ Cond.static arraycopyName ∈ z_tbl ∧ Cond.initialized "java/lang/System" ∈ z_tbl := ⟨z_in 405 (by decide +kernel) (by decide +kernel), z_in 404 (by decide +kernel) (by decide +kernel), z_in 78 (by decide +kernel) (by decide +kernel)⟩
