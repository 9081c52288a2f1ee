theorem wArr : Cond.arrayClass .int ∈ x_tb := x_mt (w := Cond.arrayClass .int) 70 (by decide +kernel) rfl
theorem wOi : Cond.instanceMethod Lib.objectInit ∈ x_tb := x_mt (w := Cond.instanceMethod Lib.objectInit) 22 (by decide +kernel) rfl
theorem wOc : Cond.code Lib.objectInit ⟨#[0xb1]⟩ 1 none ∈ x_tb := x_mt (w := Cond.code Lib.objectInit ⟨#[0xb1]⟩ 1 none) 23 (by decide +kernel) rfl
theorem wo_RX1_3 : Cond.methodLink RX1 3 Lib.objectInit ∈ x_tb := x_mt (w := Cond.methodLink RX1 3 Lib.objectInit) 35 (by decide +kernel) rfl
theorem wg_RX1_9 : Cond.fieldLink RX1 9 RX1 (TX1 1).2.1 (TX1 1).2.2.1 ∈ x_tb := x_mt (w := Cond.fieldLink RX1 9 RX1 (TX1 1).2.1 (TX1 1).2.2.1) 41 (by decide +kernel) rfl
theorem wg_RX1_15 : Cond.fieldLink RX1 15 RX1 (TX1 2).2.1 (TX1 2).2.2.1 ∈ x_tb := x_mt (w := Cond.fieldLink RX1 15 RX1 (TX1 2).2.1 (TX1 2).2.2.1) 46 (by decide +kernel) rfl
theorem wg_RX1_18 : Cond.fieldLink RX1 18 RX1 (TX1 3).2.1 (TX1 3).2.2.1 ∈ x_tb := x_mt (w := Cond.fieldLink RX1 18 RX1 (TX1 3).2.1 (TX1 3).2.2.1) 50 (by decide +kernel) rfl
theorem wg_RX1_21 : Cond.fieldLink RX1 21 RX1 (TX1 4).2.1 (TX1 4).2.2.1 ∈ x_tb := x_mt (w := Cond.fieldLink RX1 21 RX1 (TX1 4).2.1 (TX1 4).2.2.1) 54 (by decide +kernel) rfl
theorem wg_RX1_24 : Cond.fieldLink RX1 24 RX1 (TX1 5).2.1 (TX1 5).2.2.1 ∈ x_tb := x_mt (w := Cond.fieldLink RX1 24 RX1 (TX1 5).2.1 (TX1 5).2.2.1) 55 (by decide +kernel) rfl
theorem wo_RX8_3 : Cond.methodLink RX8 3 Lib.objectInit ∈ x_tb := x_mt (w := Cond.methodLink RX8 3 Lib.objectInit) 76 (by decide +kernel) rfl
theorem wg_RX8_9 : Cond.fieldLink RX8 9 RX8 (TX8 2).2.1 (TX8 2).2.2.1 ∈ x_tb := x_mt (w := Cond.fieldLink RX8 9 RX8 (TX8 2).2.1 (TX8 2).2.2.1) 86 (by decide +kernel) rfl
theorem wg_RX8_15 : Cond.fieldLink RX8 15 RX8 (TX8 3).2.1 (TX8 3).2.2.1 ∈ x_tb := x_mt (w := Cond.fieldLink RX8 15 RX8 (TX8 3).2.1 (TX8 3).2.2.1) 90 (by decide +kernel) rfl
theorem wg_RX8_18 : Cond.fieldLink RX8 18 RX8 (TX8 4).2.1 (TX8 4).2.2.1 ∈ x_tb := x_mt (w := Cond.fieldLink RX8 18 RX8 (TX8 4).2.1 (TX8 4).2.2.1) 96 (by decide +kernel) rfl
theorem wg_RX8_21 : Cond.fieldLink RX8 21 RX8 (TX8 5).2.1 (TX8 5).2.2.1 ∈ x_tb := x_mt (w := Cond.fieldLink RX8 21 RX8 (TX8 5).2.1 (TX8 5).2.2.1) 102 (by decide +kernel) rfl
theorem wg_RX8_24 : Cond.fieldLink RX8 24 RX8 (TX8 6).2.1 (TX8 6).2.2.1 ∈ x_tb := x_mt (w := Cond.fieldLink RX8 24 RX8 (TX8 6).2.1 (TX8 6).2.2.1) 107 (by decide +kernel) rfl
theorem wo_RX7_3 : Cond.methodLink RX7 3 Lib.objectInit ∈ x_tb := x_mt (w := Cond.methodLink RX7 3 Lib.objectInit) 129 (by decide +kernel) rfl
theorem wg_RX7_9 : Cond.fieldLink RX7 9 RX7 (TX7 1).2.1 (TX7 1).2.2.1 ∈ x_tb := x_mt (w := Cond.fieldLink RX7 9 RX7 (TX7 1).2.1 (TX7 1).2.2.1) 134 (by decide +kernel) rfl
theorem wg_RX7_15 : Cond.fieldLink RX7 15 RX7 (TX7 2).2.1 (TX7 2).2.2.1 ∈ x_tb := x_mt (w := Cond.fieldLink RX7 15 RX7 (TX7 2).2.1 (TX7 2).2.2.1) 138 (by decide +kernel) rfl
theorem wg_RX7_18 : Cond.fieldLink RX7 18 RX7 (TX7 3).2.1 (TX7 3).2.2.1 ∈ x_tb := x_mt (w := Cond.fieldLink RX7 18 RX7 (TX7 3).2.1 (TX7 3).2.2.1) 142 (by decide +kernel) rfl
theorem wg_RX7_21 : Cond.fieldLink RX7 21 RX7 (TX7 4).2.1 (TX7 4).2.2.1 ∈ x_tb := x_mt (w := Cond.fieldLink RX7 21 RX7 (TX7 4).2.1 (TX7 4).2.2.1) 145 (by decide +kernel) rfl
theorem wo_RX9_1 : Cond.methodLink RX9 1 Lib.objectInit ∈ x_tb := x_mt (w := Cond.methodLink RX9 1 Lib.objectInit) 29 (by decide +kernel) rfl
theorem wcl_RX9_7 : Cond.classLink RX9 7 RX1 ∈ x_tb := x_mt (w := Cond.classLink RX9 7 RX1) 30 (by decide +kernel) rfl
theorem win_1 : Cond.instantiable RX1 6 ∈ x_tb := x_mt (w := Cond.instantiable RX1 6) 31 (by decide +kernel) rfl
theorem wini_1 : Cond.initialized RX1 ∈ x_tb := x_mt (w := Cond.initialized RX1) 3 (by decide +kernel) rfl
theorem wki_X1_init : Cond.instanceMethod yX1_init ∈ x_tb := x_mt (w := Cond.instanceMethod yX1_init) 33 (by decide +kernel) rfl
theorem wkc_X1_init : Cond.code yX1_init cX1_init 1 none ∈ x_tb := x_mt (w := Cond.code yX1_init cX1_init 1 none) 34 (by decide +kernel) rfl
theorem wg_RX9_10 : Cond.fieldLink RX9 10 RX9 (TX9 0).2.1 (TX9 0).2.2.1 ∈ x_tb := x_mt (w := Cond.fieldLink RX9 10 RX9 (TX9 0).2.1 (TX9 0).2.2.1) 159 (by decide +kernel) rfl
theorem wcl_RX9_16 : Cond.classLink RX9 16 RX8 ∈ x_tb := x_mt (w := Cond.classLink RX9 16 RX8) 71 (by decide +kernel) rfl
theorem win_8 : Cond.instantiable RX8 7 ∈ x_tb := x_mt (w := Cond.instantiable RX8 7) 72 (by decide +kernel) rfl
theorem wini_8 : Cond.initialized RX8 ∈ x_tb := x_mt (w := Cond.initialized RX8) 4 (by decide +kernel) rfl
theorem wki_X8_init : Cond.instanceMethod yX8_init ∈ x_tb := x_mt (w := Cond.instanceMethod yX8_init) 74 (by decide +kernel) rfl
theorem wkc_X8_init : Cond.code yX8_init cX8_init 1 none ∈ x_tb := x_mt (w := Cond.code yX8_init cX8_init 1 none) 75 (by decide +kernel) rfl
theorem wg_RX9_19 : Cond.fieldLink RX9 19 RX9 (TX9 1).2.1 (TX9 1).2.2.1 ∈ x_tb := x_mt (w := Cond.fieldLink RX9 19 RX9 (TX9 1).2.1 (TX9 1).2.2.1) 164 (by decide +kernel) rfl
theorem wcl_RX9_23 : Cond.classLink RX9 23 RX7 ∈ x_tb := x_mt (w := Cond.classLink RX9 23 RX7) 124 (by decide +kernel) rfl
theorem win_7 : Cond.instantiable RX7 5 ∈ x_tb := x_mt (w := Cond.instantiable RX7 5) 125 (by decide +kernel) rfl
theorem wini_7 : Cond.initialized RX7 ∈ x_tb := x_mt (w := Cond.initialized RX7) 5 (by decide +kernel) rfl
theorem wki_X7_init : Cond.instanceMethod yX7_init ∈ x_tb := x_mt (w := Cond.instanceMethod yX7_init) 127 (by decide +kernel) rfl
theorem wkc_X7_init : Cond.code yX7_init cX7_init 1 none ∈ x_tb := x_mt (w := Cond.code yX7_init cX7_init 1 none) 128 (by decide +kernel) rfl
theorem wg_RX9_26 : Cond.fieldLink RX9 26 RX9 (TX9 2).2.1 (TX9 2).2.2.1 ∈ x_tb := x_mt (w := Cond.fieldLink RX9 26 RX9 (TX9 2).2.1 (TX9 2).2.2.1) 170 (by decide +kernel) rfl
theorem wo_RX4_3 : Cond.methodLink RX4 3 Lib.objectInit ∈ x_tb := x_mt (w := Cond.methodLink RX4 3 Lib.objectInit) 226 (by decide +kernel) rfl
theorem wg_RX4_9 : Cond.fieldLink RX4 9 RX4 (TX4 0).2.1 (TX4 0).2.2.1 ∈ x_tb := x_mt (w := Cond.fieldLink RX4 9 RX4 (TX4 0).2.1 (TX4 0).2.2.1) 227 (by decide +kernel) rfl
theorem wg_RX4_15 : Cond.fieldLink RX4 15 RX4 (TX4 1).2.1 (TX4 1).2.2.1 ∈ x_tb := x_mt (w := Cond.fieldLink RX4 15 RX4 (TX4 1).2.1 (TX4 1).2.2.1) 228 (by decide +kernel) rfl
theorem wg_RX4_18 : Cond.fieldLink RX4 18 RX4 (TX4 2).2.1 (TX4 2).2.2.1 ∈ x_tb := x_mt (w := Cond.fieldLink RX4 18 RX4 (TX4 2).2.1 (TX4 2).2.2.1) 231 (by decide +kernel) rfl
theorem wo_RX5_3 : Cond.methodLink RX5 3 Lib.objectInit ∈ x_tb := x_mt (w := Cond.methodLink RX5 3 Lib.objectInit) 244 (by decide +kernel) rfl
theorem wg_RX5_9 : Cond.fieldLink RX5 9 RX5 (TX5 2).2.1 (TX5 2).2.2.1 ∈ x_tb := x_mt (w := Cond.fieldLink RX5 9 RX5 (TX5 2).2.1 (TX5 2).2.2.1) 247 (by decide +kernel) rfl
theorem wg_RX5_15 : Cond.fieldLink RX5 15 RX5 (TX5 0).2.1 (TX5 0).2.2.1 ∈ x_tb := x_mt (w := Cond.fieldLink RX5 15 RX5 (TX5 0).2.1 (TX5 0).2.2.1) 245 (by decide +kernel) rfl
theorem wg_RX5_19 : Cond.fieldLink RX5 19 RX5 (TX5 1).2.1 (TX5 1).2.2.1 ∈ x_tb := x_mt (w := Cond.fieldLink RX5 19 RX5 (TX5 1).2.1 (TX5 1).2.2.1) 246 (by decide +kernel) rfl
theorem wo_RX2_3 : Cond.methodLink RX2 3 Lib.objectInit ∈ x_tb := x_mt (w := Cond.methodLink RX2 3 Lib.objectInit) 266 (by decide +kernel) rfl
theorem wg_RX2_9 : Cond.fieldLink RX2 9 RX2 (TX2 2).2.1 (TX2 2).2.2.1 ∈ x_tb := x_mt (w := Cond.fieldLink RX2 9 RX2 (TX2 2).2.1 (TX2 2).2.2.1) 269 (by decide +kernel) rfl
theorem wg_RX2_15 : Cond.fieldLink RX2 15 RX2 (TX2 0).2.1 (TX2 0).2.2.1 ∈ x_tb := x_mt (w := Cond.fieldLink RX2 15 RX2 (TX2 0).2.1 (TX2 0).2.2.1) 267 (by decide +kernel) rfl
theorem wg_RX2_19 : Cond.fieldLink RX2 19 RX2 (TX2 1).2.1 (TX2 1).2.2.1 ∈ x_tb := x_mt (w := Cond.fieldLink RX2 19 RX2 (TX2 1).2.1 (TX2 1).2.2.1) 268 (by decide +kernel) rfl
theorem wo_RX0_3 : Cond.methodLink RX0 3 Lib.objectInit ∈ x_tb := x_mt (w := Cond.methodLink RX0 3 Lib.objectInit) 282 (by decide +kernel) rfl
theorem wg_RX0_9 : Cond.fieldLink RX0 9 RX0 (TX0 0).2.1 (TX0 0).2.2.1 ∈ x_tb := x_mt (w := Cond.fieldLink RX0 9 RX0 (TX0 0).2.1 (TX0 0).2.2.1) 283 (by decide +kernel) rfl
theorem wg_RX0_15 : Cond.fieldLink RX0 15 RX0 (TX0 1).2.1 (TX0 1).2.2.1 ∈ x_tb := x_mt (w := Cond.fieldLink RX0 15 RX0 (TX0 1).2.1 (TX0 1).2.2.1) 284 (by decide +kernel) rfl
theorem wg_RX0_19 : Cond.fieldLink RX0 19 RX0 (TX0 2).2.1 (TX0 2).2.2.1 ∈ x_tb := x_mt (w := Cond.fieldLink RX0 19 RX0 (TX0 2).2.1 (TX0 2).2.2.1) 285 (by decide +kernel) rfl
theorem wo_RX6_3 : Cond.methodLink RX6 3 Lib.objectInit ∈ x_tb := x_mt (w := Cond.methodLink RX6 3 Lib.objectInit) 298 (by decide +kernel) rfl
theorem wg_RX6_9 : Cond.fieldLink RX6 9 RX6 (TX6 4).2.1 (TX6 4).2.2.1 ∈ x_tb := x_mt (w := Cond.fieldLink RX6 9 RX6 (TX6 4).2.1 (TX6 4).2.2.1) 305 (by decide +kernel) rfl
theorem wg_RX6_15 : Cond.fieldLink RX6 15 RX6 (TX6 5).2.1 (TX6 5).2.2.1 ∈ x_tb := x_mt (w := Cond.fieldLink RX6 15 RX6 (TX6 5).2.1 (TX6 5).2.2.1) 306 (by decide +kernel) rfl
theorem wg_RX6_18 : Cond.fieldLink RX6 18 RX6 (TX6 6).2.1 (TX6 6).2.2.1 ∈ x_tb := x_mt (w := Cond.fieldLink RX6 18 RX6 (TX6 6).2.1 (TX6 6).2.2.1) 307 (by decide +kernel) rfl
theorem wo_RX11_1 : Cond.methodLink RX11 1 Lib.objectInit ∈ x_tb := x_mt (w := Cond.methodLink RX11 1 Lib.objectInit) 878 (by decide +kernel) rfl
theorem wg_RX11_7 : Cond.fieldLink RX11 7 RX11 (TX11 0).2.1 (TX11 0).2.2.1 ∈ x_tb := x_mt (w := Cond.fieldLink RX11 7 RX11 (TX11 0).2.1 (TX11 0).2.2.1) 879 (by decide +kernel) rfl
theorem wg_RX11_13 : Cond.fieldLink RX11 13 RX11 (TX11 1).2.1 (TX11 1).2.2.1 ∈ x_tb := x_mt (w := Cond.fieldLink RX11 13 RX11 (TX11 1).2.1 (TX11 1).2.2.1) 880 (by decide +kernel) rfl
theorem wg_RX11_16 : Cond.fieldLink RX11 16 RX11 (TX11 2).2.1 (TX11 2).2.2.1 ∈ x_tb := x_mt (w := Cond.fieldLink RX11 16 RX11 (TX11 2).2.1 (TX11 2).2.2.1) 881 (by decide +kernel) rfl
theorem wg_RX11_19 : Cond.fieldLink RX11 19 RX11 (TX11 4).2.1 (TX11 4).2.2.1 ∈ x_tb := x_mt (w := Cond.fieldLink RX11 19 RX11 (TX11 4).2.1 (TX11 4).2.2.1) 883 (by decide +kernel) rfl
theorem wg_RX11_22 : Cond.fieldLink RX11 22 RX11 (TX11 5).2.1 (TX11 5).2.2.1 ∈ x_tb := x_mt (w := Cond.fieldLink RX11 22 RX11 (TX11 5).2.1 (TX11 5).2.2.1) 884 (by decide +kernel) rfl
theorem wg_RX11_25 : Cond.fieldLink RX11 25 RX11 (TX11 6).2.1 (TX11 6).2.2.1 ∈ x_tb := x_mt (w := Cond.fieldLink RX11 25 RX11 (TX11 6).2.1 (TX11 6).2.2.1) 885 (by decide +kernel) rfl
theorem wg_RX11_28 : Cond.fieldLink RX11 28 RX11 (TX11 7).2.1 (TX11 7).2.2.1 ∈ x_tb := x_mt (w := Cond.fieldLink RX11 28 RX11 (TX11 7).2.1 (TX11 7).2.2.1) 886 (by decide +kernel) rfl
theorem wg_RX11_31 : Cond.fieldLink RX11 31 RX11 (TX11 8).2.1 (TX11 8).2.2.1 ∈ x_tb := x_mt (w := Cond.fieldLink RX11 31 RX11 (TX11 8).2.1 (TX11 8).2.2.1) 887 (by decide +kernel) rfl
theorem wg_RX11_34 : Cond.fieldLink RX11 34 RX11 (TX11 9).2.1 (TX11 9).2.2.1 ∈ x_tb := x_mt (w := Cond.fieldLink RX11 34 RX11 (TX11 9).2.1 (TX11 9).2.2.1) 888 (by decide +kernel) rfl
theorem wg_RX11_37 : Cond.fieldLink RX11 37 RX11 (TX11 10).2.1 (TX11 10).2.2.1 ∈ x_tb := x_mt (w := Cond.fieldLink RX11 37 RX11 (TX11 10).2.1 (TX11 10).2.2.1) 889 (by decide +kernel) rfl
theorem wg_RX11_40 : Cond.fieldLink RX11 40 RX11 (TX11 11).2.1 (TX11 11).2.2.1 ∈ x_tb := x_mt (w := Cond.fieldLink RX11 40 RX11 (TX11 11).2.1 (TX11 11).2.2.1) 890 (by decide +kernel) rfl
theorem wg_RX11_43 : Cond.fieldLink RX11 43 RX11 (TX11 12).2.1 (TX11 12).2.2.1 ∈ x_tb := x_mt (w := Cond.fieldLink RX11 43 RX11 (TX11 12).2.1 (TX11 12).2.2.1) 891 (by decide +kernel) rfl
theorem wg_RX11_46 : Cond.fieldLink RX11 46 RX11 (TX11 15).2.1 (TX11 15).2.2.1 ∈ x_tb := x_mt (w := Cond.fieldLink RX11 46 RX11 (TX11 15).2.1 (TX11 15).2.2.1) 894 (by decide +kernel) rfl
theorem wo_RX3_3 : Cond.methodLink RX3 3 Lib.objectInit ∈ x_tb := x_mt (w := Cond.methodLink RX3 3 Lib.objectInit) 206 (by decide +kernel) rfl
theorem wcl_RX3_11 : Cond.classLink RX3 11 RX9 ∈ x_tb := x_mt (w := Cond.classLink RX3 11 RX9) 207 (by decide +kernel) rfl
theorem wg_RX3_13 : Cond.fieldLink RX3 13 RX3 (TX3 2).2.1 (TX3 2).2.2.1 ∈ x_tb := x_mt (w := Cond.fieldLink RX3 13 RX3 (TX3 2).2.1 (TX3 2).2.2.1) 213 (by decide +kernel) rfl
theorem win_9 : Cond.instantiable RX9 7 ∈ x_tb := x_mt (w := Cond.instantiable RX9 7) 25 (by decide +kernel) rfl
theorem wini_9 : Cond.initialized RX9 ∈ x_tb := x_mt (w := Cond.initialized RX9) 2 (by decide +kernel) rfl
theorem wki_X9_init : Cond.instanceMethod yX9_init ∈ x_tb := x_mt (w := Cond.instanceMethod yX9_init) 27 (by decide +kernel) rfl
theorem wkc_X9_init : Cond.code yX9_init cX9_init 1 none ∈ x_tb := x_mt (w := Cond.code yX9_init cX9_init 1 none) 28 (by decide +kernel) rfl
theorem wo_RX10_1 : Cond.methodLink RX10 1 Lib.objectInit ∈ x_tb := x_mt (w := Cond.methodLink RX10 1 Lib.objectInit) 21 (by decide +kernel) rfl
theorem wcl_RX10_7 : Cond.classLink RX10 7 RX9 ∈ x_tb := x_mt (w := Cond.classLink RX10 7 RX9) 24 (by decide +kernel) rfl
theorem wg_RX10_10 : Cond.fieldLink RX10 10 RX10 (TX10 0).2.1 (TX10 0).2.2.1 ∈ x_tb := x_mt (w := Cond.fieldLink RX10 10 RX10 (TX10 0).2.1 (TX10 0).2.2.1) 323 (by decide +kernel) rfl
theorem wcl_RX10_16 : Cond.classLink RX10 16 RX3 ∈ x_tb := x_mt (w := Cond.classLink RX10 16 RX3) 201 (by decide +kernel) rfl
theorem win_3 : Cond.instantiable RX3 3 ∈ x_tb := x_mt (w := Cond.instantiable RX3 3) 202 (by decide +kernel) rfl
theorem wini_3 : Cond.initialized RX3 ∈ x_tb := x_mt (w := Cond.initialized RX3) 6 (by decide +kernel) rfl
theorem wki_X3_init : Cond.instanceMethod yX3_init ∈ x_tb := x_mt (w := Cond.instanceMethod yX3_init) 204 (by decide +kernel) rfl
theorem wkc_X3_init : Cond.code yX3_init cX3_init 2 none ∈ x_tb := x_mt (w := Cond.code yX3_init cX3_init 2 none) 205 (by decide +kernel) rfl
theorem wkl_RX10_18 : Cond.methodLink RX10 18 yX3_init ∈ x_tb := x_mt (w := Cond.methodLink RX10 18 yX3_init) 203 (by decide +kernel) rfl
theorem wg_RX10_19 : Cond.fieldLink RX10 19 RX10 (TX10 1).2.1 (TX10 1).2.2.1 ∈ x_tb := x_mt (w := Cond.fieldLink RX10 19 RX10 (TX10 1).2.1 (TX10 1).2.2.1) 324 (by decide +kernel) rfl
theorem wcl_RX10_23 : Cond.classLink RX10 23 RX4 ∈ x_tb := x_mt (w := Cond.classLink RX10 23 RX4) 221 (by decide +kernel) rfl
theorem win_4 : Cond.instantiable RX4 3 ∈ x_tb := x_mt (w := Cond.instantiable RX4 3) 222 (by decide +kernel) rfl
theorem wini_4 : Cond.initialized RX4 ∈ x_tb := x_mt (w := Cond.initialized RX4) 7 (by decide +kernel) rfl
theorem wki_X4_init : Cond.instanceMethod yX4_init ∈ x_tb := x_mt (w := Cond.instanceMethod yX4_init) 224 (by decide +kernel) rfl
theorem wkc_X4_init : Cond.code yX4_init cX4_init 2 none ∈ x_tb := x_mt (w := Cond.code yX4_init cX4_init 2 none) 225 (by decide +kernel) rfl
theorem wkl_RX10_25 : Cond.methodLink RX10 25 yX4_init ∈ x_tb := x_mt (w := Cond.methodLink RX10 25 yX4_init) 223 (by decide +kernel) rfl
theorem wg_RX10_28 : Cond.fieldLink RX10 28 RX10 (TX10 2).2.1 (TX10 2).2.2.1 ∈ x_tb := x_mt (w := Cond.fieldLink RX10 28 RX10 (TX10 2).2.1 (TX10 2).2.2.1) 325 (by decide +kernel) rfl
theorem wcl_RX10_32 : Cond.classLink RX10 32 RX5 ∈ x_tb := x_mt (w := Cond.classLink RX10 32 RX5) 239 (by decide +kernel) rfl
theorem win_5 : Cond.instantiable RX5 5 ∈ x_tb := x_mt (w := Cond.instantiable RX5 5) 240 (by decide +kernel) rfl
theorem wini_5 : Cond.initialized RX5 ∈ x_tb := x_mt (w := Cond.initialized RX5) 8 (by decide +kernel) rfl
theorem wki_X5_init : Cond.instanceMethod yX5_init ∈ x_tb := x_mt (w := Cond.instanceMethod yX5_init) 242 (by decide +kernel) rfl
theorem wkc_X5_init : Cond.code yX5_init cX5_init 3 none ∈ x_tb := x_mt (w := Cond.code yX5_init cX5_init 3 none) 243 (by decide +kernel) rfl
theorem wkl_RX10_34 : Cond.methodLink RX10 34 yX5_init ∈ x_tb := x_mt (w := Cond.methodLink RX10 34 yX5_init) 241 (by decide +kernel) rfl
theorem wg_RX10_37 : Cond.fieldLink RX10 37 RX10 (TX10 3).2.1 (TX10 3).2.2.1 ∈ x_tb := x_mt (w := Cond.fieldLink RX10 37 RX10 (TX10 3).2.1 (TX10 3).2.2.1) 326 (by decide +kernel) rfl
theorem wcl_RX10_41 : Cond.classLink RX10 41 RX2 ∈ x_tb := x_mt (w := Cond.classLink RX10 41 RX2) 261 (by decide +kernel) rfl
theorem win_2 : Cond.instantiable RX2 3 ∈ x_tb := x_mt (w := Cond.instantiable RX2 3) 262 (by decide +kernel) rfl
theorem wini_2 : Cond.initialized RX2 ∈ x_tb := x_mt (w := Cond.initialized RX2) 9 (by decide +kernel) rfl
theorem wki_X2_init : Cond.instanceMethod yX2_init ∈ x_tb := x_mt (w := Cond.instanceMethod yX2_init) 264 (by decide +kernel) rfl
theorem wkc_X2_init : Cond.code yX2_init cX2_init 3 none ∈ x_tb := x_mt (w := Cond.code yX2_init cX2_init 3 none) 265 (by decide +kernel) rfl
theorem wkl_RX10_43 : Cond.methodLink RX10 43 yX2_init ∈ x_tb := x_mt (w := Cond.methodLink RX10 43 yX2_init) 263 (by decide +kernel) rfl
theorem wg_RX10_44 : Cond.fieldLink RX10 44 RX10 (TX10 4).2.1 (TX10 4).2.2.1 ∈ x_tb := x_mt (w := Cond.fieldLink RX10 44 RX10 (TX10 4).2.1 (TX10 4).2.2.1) 327 (by decide +kernel) rfl
theorem wcl_RX10_48 : Cond.classLink RX10 48 RX0 ∈ x_tb := x_mt (w := Cond.classLink RX10 48 RX0) 277 (by decide +kernel) rfl
theorem win_0 : Cond.instantiable RX0 3 ∈ x_tb := x_mt (w := Cond.instantiable RX0 3) 278 (by decide +kernel) rfl
theorem wini_0 : Cond.initialized RX0 ∈ x_tb := x_mt (w := Cond.initialized RX0) 10 (by decide +kernel) rfl
theorem wki_X0_init : Cond.instanceMethod yX0_init ∈ x_tb := x_mt (w := Cond.instanceMethod yX0_init) 280 (by decide +kernel) rfl
theorem wkc_X0_init : Cond.code yX0_init cX0_init 4 none ∈ x_tb := x_mt (w := Cond.code yX0_init cX0_init 4 none) 281 (by decide +kernel) rfl
theorem wkl_RX10_50 : Cond.methodLink RX10 50 yX0_init ∈ x_tb := x_mt (w := Cond.methodLink RX10 50 yX0_init) 279 (by decide +kernel) rfl
theorem wg_RX10_53 : Cond.fieldLink RX10 53 RX10 (TX10 5).2.1 (TX10 5).2.2.1 ∈ x_tb := x_mt (w := Cond.fieldLink RX10 53 RX10 (TX10 5).2.1 (TX10 5).2.2.1) 328 (by decide +kernel) rfl
theorem wcl_RX10_57 : Cond.classLink RX10 57 RX6 ∈ x_tb := x_mt (w := Cond.classLink RX10 57 RX6) 293 (by decide +kernel) rfl
theorem win_6 : Cond.instantiable RX6 7 ∈ x_tb := x_mt (w := Cond.instantiable RX6 7) 294 (by decide +kernel) rfl
theorem wini_6 : Cond.initialized RX6 ∈ x_tb := x_mt (w := Cond.initialized RX6) 11 (by decide +kernel) rfl
theorem wki_X6_init : Cond.instanceMethod yX6_init ∈ x_tb := x_mt (w := Cond.instanceMethod yX6_init) 296 (by decide +kernel) rfl
theorem wkc_X6_init : Cond.code yX6_init cX6_init 1 none ∈ x_tb := x_mt (w := Cond.code yX6_init cX6_init 1 none) 297 (by decide +kernel) rfl
theorem wg_RX10_60 : Cond.fieldLink RX10 60 RX10 (TX10 6).2.1 (TX10 6).2.2.1 ∈ x_tb := x_mt (w := Cond.fieldLink RX10 60 RX10 (TX10 6).2.1 (TX10 6).2.2.1) 329 (by decide +kernel) rfl
