/-! what the tables say of the constructors: by program -/
abbrev mX0_init : sw_Me := (yX0_init, cX0_init, 1, none)
abbrev mX1_init : sw_Me := (yX1_init, cX1_init, 1, none)
abbrev mX2_init : sw_Me := (yX2_init, cX2_init, 1, none)
abbrev mX3_init : sw_Me := (yX3_init, cX3_init, 2, none)
abbrev mX4_init : sw_Me := (yX4_init, cX4_init, 1, none)
abbrev mX5_init : sw_Me := (yX5_init, cX5_init, 1, none)
abbrev mX6_init : sw_Me := (yX6_init, cX6_init, 1, none)
abbrev mX7_init : sw_Me := (yX7_init, cX7_init, 2, none)
abbrev mX8_init : sw_Me := (yX8_init, cX8_init, 1, none)
theorem oi_i : Cond.instanceMethod Lib.objectInit ∈ sw_W := sw_in (List.mem_append_right _ (List.mem_of_getElem? (i := 19) (by decide +kernel))) (by decide +kernel)
theorem oi_c : Cond.code Lib.objectInit ⟨#[0xb1]⟩ 1 none ∈ sw_W := sw_in (List.mem_append_right _ (List.mem_of_getElem? (i := 20) (by decide +kernel))) (by decide +kernel)
theorem oi_X7 : Cond.methodLink RX7 3 Lib.objectInit ∈ sw_W := sw_in (List.mem_append_right _ (List.mem_of_getElem? (i := 18) (by decide +kernel))) (by decide +kernel)
theorem oi_X5 : Cond.methodLink RX5 3 Lib.objectInit ∈ sw_W := sw_in (List.mem_append_right _ (List.mem_of_getElem? (i := 26) (by decide +kernel))) (by decide +kernel)
theorem oi_X3 : Cond.methodLink RX3 3 Lib.objectInit ∈ sw_W := sw_in (List.mem_append_right _ (List.mem_of_getElem? (i := 32) (by decide +kernel))) (by decide +kernel)
theorem oi_X6 : Cond.methodLink RX6 3 Lib.objectInit ∈ sw_W := sw_in (List.mem_append_right _ (List.mem_of_getElem? (i := 103) (by decide +kernel))) (by decide +kernel)
theorem oi_X2 : Cond.methodLink RX2 3 Lib.objectInit ∈ sw_W := sw_in (List.mem_append_right _ (List.mem_of_getElem? (i := 150) (by decide +kernel))) (by decide +kernel)
theorem oi_X4 : Cond.methodLink RX4 3 Lib.objectInit ∈ sw_W := sw_in (List.mem_append_right _ (List.mem_of_getElem? (i := 172) (by decide +kernel))) (by decide +kernel)
theorem oi_X1 : Cond.methodLink RX1 3 Lib.objectInit ∈ sw_W := sw_in (List.mem_append_right _ (List.mem_of_getElem? (i := 195) (by decide +kernel))) (by decide +kernel)
theorem oi_X0 : Cond.methodLink RX0 3 Lib.objectInit ∈ sw_W := sw_in (List.mem_append_right _ (List.mem_of_getElem? (i := 232) (by decide +kernel))) (by decide +kernel)
theorem oi_X8 : Cond.methodLink RX8 1 Lib.objectInit ∈ sw_W := sw_in (List.mem_append_right _ (List.mem_of_getElem? (i := 631) (by decide +kernel))) (by decide +kernel)
theorem ac_i : Cond.arrayClass .int ∈ sw_W := sw_in (List.mem_append_right _ (List.mem_of_getElem? (i := 40) (by decide +kernel))) (by decide +kernel)
theorem ac_z : Cond.arrayClass .boolean ∈ sw_W := sw_in (List.mem_append_right _ (List.mem_of_getElem? (i := 723) (by decide +kernel))) (by decide +kernel)
theorem in_X0 : Cond.instantiable RX0 3 ∈ sw_W := sw_in (List.mem_append_right _ (List.mem_of_getElem? (i := 228) (by decide +kernel))) (by decide +kernel)
theorem iz_X0 : Cond.initialized RX0 ∈ sw_W := sw_in (List.mem_append_right _ (List.mem_of_getElem? (i := 9) (by decide +kernel))) (by decide +kernel)
theorem in_X1 : Cond.instantiable RX1 8 ∈ sw_W := sw_in (List.mem_append_right _ (List.mem_of_getElem? (i := 191) (by decide +kernel))) (by decide +kernel)
theorem iz_X1 : Cond.initialized RX1 ∈ sw_W := sw_in (List.mem_append_right _ (List.mem_of_getElem? (i := 8) (by decide +kernel))) (by decide +kernel)
theorem in_X2 : Cond.instantiable RX2 4 ∈ sw_W := sw_in (List.mem_append_right _ (List.mem_of_getElem? (i := 146) (by decide +kernel))) (by decide +kernel)
theorem iz_X2 : Cond.initialized RX2 ∈ sw_W := sw_in (List.mem_append_right _ (List.mem_of_getElem? (i := 6) (by decide +kernel))) (by decide +kernel)
theorem in_X3 : Cond.instantiable RX3 1 ∈ sw_W := sw_in (List.mem_append_right _ (List.mem_of_getElem? (i := 28) (by decide +kernel))) (by decide +kernel)
theorem iz_X3 : Cond.initialized RX3 ∈ sw_W := sw_in (List.mem_append_right _ (List.mem_of_getElem? (i := 3) (by decide +kernel))) (by decide +kernel)
theorem in_X4 : Cond.instantiable RX4 3 ∈ sw_W := sw_in (List.mem_append_right _ (List.mem_of_getElem? (i := 168) (by decide +kernel))) (by decide +kernel)
theorem iz_X4 : Cond.initialized RX4 ∈ sw_W := sw_in (List.mem_append_right _ (List.mem_of_getElem? (i := 7) (by decide +kernel))) (by decide +kernel)
theorem in_X5 : Cond.instantiable RX5 13 ∈ sw_W := sw_in (List.mem_append_right _ (List.mem_of_getElem? (i := 22) (by decide +kernel))) (by decide +kernel)
theorem iz_X5 : Cond.initialized RX5 ∈ sw_W := sw_in (List.mem_append_right _ (List.mem_of_getElem? (i := 2) (by decide +kernel))) (by decide +kernel)
theorem in_X6 : Cond.instantiable RX6 9 ∈ sw_W := sw_in (List.mem_append_right _ (List.mem_of_getElem? (i := 99) (by decide +kernel))) (by decide +kernel)
theorem iz_X6 : Cond.initialized RX6 ∈ sw_W := sw_in (List.mem_append_right _ (List.mem_of_getElem? (i := 5) (by decide +kernel))) (by decide +kernel)
theorem in_X7 : Cond.instantiable RX7 9 ∈ sw_W := sw_in (List.mem_append_right _ (List.mem_of_getElem? (i := 14) (by decide +kernel))) (by decide +kernel)
theorem iz_X7 : Cond.initialized RX7 ∈ sw_W := sw_in (List.mem_append_right _ (List.mem_of_getElem? (i := 1) (by decide +kernel))) (by decide +kernel)
theorem in_X8 : Cond.instantiable RX8 30 ∈ sw_W := sw_in (List.mem_append_right _ (List.mem_of_getElem? (i := 627) (by decide +kernel))) (by decide +kernel)
theorem iz_X8 : Cond.initialized RX8 ∈ sw_W := sw_in (List.mem_append_right _ (List.mem_of_getElem? (i := 10) (by decide +kernel))) (by decide +kernel)
theorem clL_7 : Cond.classLink RL 7 RX7 ∈ sw_W := sw_in (List.mem_append_right _ (List.mem_of_getElem? (i := 13) (by decide +kernel))) (by decide +kernel)
theorem clX7_9 : Cond.classLink RX7 9 RX5 ∈ sw_W := sw_in (List.mem_append_right _ (List.mem_of_getElem? (i := 21) (by decide +kernel))) (by decide +kernel)
theorem clX5_30 : Cond.classLink RX5 30 RX3 ∈ sw_W := sw_in (List.mem_append_right _ (List.mem_of_getElem? (i := 27) (by decide +kernel))) (by decide +kernel)
theorem clX7_16 : Cond.classLink RX7 16 RX6 ∈ sw_W := sw_in (List.mem_append_right _ (List.mem_of_getElem? (i := 98) (by decide +kernel))) (by decide +kernel)
theorem clX6_9 : Cond.classLink RX6 9 RX3 ∈ sw_W := sw_in (List.mem_append_right _ (List.mem_of_getElem? (i := 104) (by decide +kernel))) (by decide +kernel)
theorem clX7_23 : Cond.classLink RX7 23 RX2 ∈ sw_W := sw_in (List.mem_append_right _ (List.mem_of_getElem? (i := 145) (by decide +kernel))) (by decide +kernel)
theorem clX2_9 : Cond.classLink RX2 9 RX3 ∈ sw_W := sw_in (List.mem_append_right _ (List.mem_of_getElem? (i := 151) (by decide +kernel))) (by decide +kernel)
theorem clX7_30 : Cond.classLink RX7 30 RX4 ∈ sw_W := sw_in (List.mem_append_right _ (List.mem_of_getElem? (i := 167) (by decide +kernel))) (by decide +kernel)
theorem clX4_9 : Cond.classLink RX4 9 RX3 ∈ sw_W := sw_in (List.mem_append_right _ (List.mem_of_getElem? (i := 173) (by decide +kernel))) (by decide +kernel)
theorem clX7_37 : Cond.classLink RX7 37 RX1 ∈ sw_W := sw_in (List.mem_append_right _ (List.mem_of_getElem? (i := 190) (by decide +kernel))) (by decide +kernel)
theorem clX1_9 : Cond.classLink RX1 9 RX3 ∈ sw_W := sw_in (List.mem_append_right _ (List.mem_of_getElem? (i := 196) (by decide +kernel))) (by decide +kernel)
theorem clX7_44 : Cond.classLink RX7 44 RX0 ∈ sw_W := sw_in (List.mem_append_right _ (List.mem_of_getElem? (i := 227) (by decide +kernel))) (by decide +kernel)
theorem clX0_9 : Cond.classLink RX0 9 RX3 ∈ sw_W := sw_in (List.mem_append_right _ (List.mem_of_getElem? (i := 233) (by decide +kernel))) (by decide +kernel)
theorem clX7_51 : Cond.classLink RX7 51 RX3 ∈ sw_W := sw_in (List.mem_append_right _ (List.mem_of_getElem? (i := 245) (by decide +kernel))) (by decide +kernel)
theorem clL_10 : Cond.classLink RL 10 RX8 ∈ sw_W := sw_in (List.mem_append_right _ (List.mem_of_getElem? (i := 626) (by decide +kernel))) (by decide +kernel)
theorem gX7_12 : gw_FP RX7 12 7 0 true (.object "MadeLand$Terrain") := ⟨RX7, TX7, 9, rfl, by decide, sw_in (List.mem_append_right _ (List.mem_of_getElem? (i := 253) (by decide +kernel))) (by decide +kernel), rfl, rfl, by decide +kernel⟩
theorem gX7_19 : gw_FP RX7 19 7 1 true (.object "MadeLand$Water") := ⟨RX7, TX7, 9, rfl, by decide, sw_in (List.mem_append_right _ (List.mem_of_getElem? (i := 254) (by decide +kernel))) (by decide +kernel), rfl, rfl, by decide +kernel⟩
theorem gX7_26 : gw_FP RX7 26 7 2 true (.object "MadeLand$Pools") := ⟨RX7, TX7, 9, rfl, by decide, sw_in (List.mem_append_right _ (List.mem_of_getElem? (i := 255) (by decide +kernel))) (by decide +kernel), rfl, rfl, by decide +kernel⟩
theorem gX7_33 : gw_FP RX7 33 7 3 true (.object "MadeLand$Settlements") := ⟨RX7, TX7, 9, rfl, by decide, sw_in (List.mem_append_right _ (List.mem_of_getElem? (i := 256) (by decide +kernel))) (by decide +kernel), rfl, rfl, by decide +kernel⟩
theorem gX7_40 : gw_FP RX7 40 7 4 true (.object "MadeLand$Network") := ⟨RX7, TX7, 9, rfl, by decide, sw_in (List.mem_append_right _ (List.mem_of_getElem? (i := 257) (by decide +kernel))) (by decide +kernel), rfl, rfl, by decide +kernel⟩
theorem gX7_47 : gw_FP RX7 47 7 5 true (.object "MadeLand$Heap") := ⟨RX7, TX7, 9, rfl, by decide, sw_in (List.mem_append_right _ (List.mem_of_getElem? (i := 258) (by decide +kernel))) (by decide +kernel), rfl, rfl, by decide +kernel⟩
theorem gX7_56 : gw_FP RX7 56 7 6 true (.object "MadeLand$Row") := ⟨RX7, TX7, 9, rfl, by decide, sw_in (List.mem_append_right _ (List.mem_of_getElem? (i := 259) (by decide +kernel))) (by decide +kernel), rfl, rfl, by decide +kernel⟩
theorem gX7_60 : gw_FP RX7 60 7 7 false .int := ⟨RX7, TX7, 9, rfl, by decide, sw_in (List.mem_append_right _ (List.mem_of_getElem? (i := 260) (by decide +kernel))) (by decide +kernel), rfl, rfl, by decide +kernel⟩
theorem gX7_64 : gw_FP RX7 64 7 8 false .int := ⟨RX7, TX7, 9, rfl, by decide, sw_in (List.mem_append_right _ (List.mem_of_getElem? (i := 261) (by decide +kernel))) (by decide +kernel), rfl, rfl, by decide +kernel⟩
theorem gX0_16 : gw_FP RX0 16 0 0 true (.object "MadeLand$Row") := ⟨RX0, TX0, 3, rfl, by decide, sw_in (List.mem_append_right _ (List.mem_of_getElem? (i := 235) (by decide +kernel))) (by decide +kernel), rfl, rfl, by decide +kernel⟩
theorem gX0_20 : gw_FP RX0 20 0 1 false .int := ⟨RX0, TX0, 3, rfl, by decide, sw_in (List.mem_append_right _ (List.mem_of_getElem? (i := 236) (by decide +kernel))) (by decide +kernel), rfl, rfl, by decide +kernel⟩
theorem gX0_24 : gw_FP RX0 24 0 2 false .int := ⟨RX0, TX0, 3, rfl, by decide, sw_in (List.mem_append_right _ (List.mem_of_getElem? (i := 237) (by decide +kernel))) (by decide +kernel), rfl, rfl, by decide +kernel⟩
theorem gX1_14 : gw_FP RX1 14 1 0 true (.object "MadeLand$Row") := ⟨RX1, TX1, 8, rfl, by decide, sw_in (List.mem_append_right _ (List.mem_of_getElem? (i := 198) (by decide +kernel))) (by decide +kernel), rfl, rfl, by decide +kernel⟩
theorem gX1_20 : gw_FP RX1 20 1 1 true (.object "MadeLand$Row") := ⟨RX1, TX1, 8, rfl, by decide, sw_in (List.mem_append_right _ (List.mem_of_getElem? (i := 199) (by decide +kernel))) (by decide +kernel), rfl, rfl, by decide +kernel⟩
theorem gX1_23 : gw_FP RX1 23 1 2 true (.object "MadeLand$Row") := ⟨RX1, TX1, 8, rfl, by decide, sw_in (List.mem_append_right _ (List.mem_of_getElem? (i := 201) (by decide +kernel))) (by decide +kernel), rfl, rfl, by decide +kernel⟩
theorem gX1_26 : gw_FP RX1 26 1 3 true (.object "MadeLand$Row") := ⟨RX1, TX1, 8, rfl, by decide, sw_in (List.mem_append_right _ (List.mem_of_getElem? (i := 202) (by decide +kernel))) (by decide +kernel), rfl, rfl, by decide +kernel⟩
theorem gX1_29 : gw_FP RX1 29 1 4 false .int := ⟨RX1, TX1, 8, rfl, by decide, sw_in (List.mem_append_right _ (List.mem_of_getElem? (i := 203) (by decide +kernel))) (by decide +kernel), rfl, rfl, by decide +kernel⟩
theorem gX1_33 : gw_FP RX1 33 1 5 false .int := ⟨RX1, TX1, 8, rfl, by decide, sw_in (List.mem_append_right _ (List.mem_of_getElem? (i := 204) (by decide +kernel))) (by decide +kernel), rfl, rfl, by decide +kernel⟩
theorem gX1_36 : gw_FP RX1 36 1 6 false .int := ⟨RX1, TX1, 8, rfl, by decide, sw_in (List.mem_append_right _ (List.mem_of_getElem? (i := 206) (by decide +kernel))) (by decide +kernel), rfl, rfl, by decide +kernel⟩
theorem gX1_39 : gw_FP RX1 39 1 7 false .int := ⟨RX1, TX1, 8, rfl, by decide, sw_in (List.mem_append_right _ (List.mem_of_getElem? (i := 208) (by decide +kernel))) (by decide +kernel), rfl, rfl, by decide +kernel⟩
theorem gX2_14 : gw_FP RX2 14 2 0 true (.object "MadeLand$Row") := ⟨RX2, TX2, 4, rfl, by decide, sw_in (List.mem_append_right _ (List.mem_of_getElem? (i := 153) (by decide +kernel))) (by decide +kernel), rfl, rfl, by decide +kernel⟩
theorem gX2_20 : gw_FP RX2 20 2 1 true (.object "MadeLand$Row") := ⟨RX2, TX2, 4, rfl, by decide, sw_in (List.mem_append_right _ (List.mem_of_getElem? (i := 154) (by decide +kernel))) (by decide +kernel), rfl, rfl, by decide +kernel⟩
theorem gX2_23 : gw_FP RX2 23 2 2 true (.object "MadeLand$Row") := ⟨RX2, TX2, 4, rfl, by decide, sw_in (List.mem_append_right _ (List.mem_of_getElem? (i := 155) (by decide +kernel))) (by decide +kernel), rfl, rfl, by decide +kernel⟩
theorem gX2_26 : gw_FP RX2 26 2 3 false .int := ⟨RX2, TX2, 4, rfl, by decide, sw_in (List.mem_append_right _ (List.mem_of_getElem? (i := 156) (by decide +kernel))) (by decide +kernel), rfl, rfl, by decide +kernel⟩
theorem gX3_15 : gw_FP RX3 15 3 0 true (.array .int) := ⟨RX3, TX3, 1, rfl, by decide, sw_in (List.mem_append_right _ (List.mem_of_getElem? (i := 36) (by decide +kernel))) (by decide +kernel), rfl, rfl, by decide +kernel⟩
theorem gX4_14 : gw_FP RX4 14 4 0 true (.object "MadeLand$Row") := ⟨RX4, TX4, 3, rfl, by decide, sw_in (List.mem_append_right _ (List.mem_of_getElem? (i := 175) (by decide +kernel))) (by decide +kernel), rfl, rfl, by decide +kernel⟩
theorem gX4_20 : gw_FP RX4 20 4 1 true (.object "MadeLand$Row") := ⟨RX4, TX4, 3, rfl, by decide, sw_in (List.mem_append_right _ (List.mem_of_getElem? (i := 177) (by decide +kernel))) (by decide +kernel), rfl, rfl, by decide +kernel⟩
theorem gX4_23 : gw_FP RX4 23 4 2 false .int := ⟨RX4, TX4, 3, rfl, by decide, sw_in (List.mem_append_right _ (List.mem_of_getElem? (i := 180) (by decide +kernel))) (by decide +kernel), rfl, rfl, by decide +kernel⟩
theorem gX5_9 : gw_FP RX5 9 5 0 false .int := ⟨RX5, TX5, 13, rfl, by decide, sw_in (List.mem_append_right _ (List.mem_of_getElem? (i := 41) (by decide +kernel))) (by decide +kernel), rfl, rfl, by decide +kernel⟩
theorem gX5_15 : gw_FP RX5 15 5 1 false .int := ⟨RX5, TX5, 13, rfl, by decide, sw_in (List.mem_append_right _ (List.mem_of_getElem? (i := 43) (by decide +kernel))) (by decide +kernel), rfl, rfl, by decide +kernel⟩
theorem gX5_18 : gw_FP RX5 18 5 2 false .int := ⟨RX5, TX5, 13, rfl, by decide, sw_in (List.mem_append_right _ (List.mem_of_getElem? (i := 45) (by decide +kernel))) (by decide +kernel), rfl, rfl, by decide +kernel⟩
theorem gX5_21 : gw_FP RX5 21 5 3 false .int := ⟨RX5, TX5, 13, rfl, by decide, sw_in (List.mem_append_right _ (List.mem_of_getElem? (i := 51) (by decide +kernel))) (by decide +kernel), rfl, rfl, by decide +kernel⟩
theorem gX5_24 : gw_FP RX5 24 5 4 false .int := ⟨RX5, TX5, 13, rfl, by decide, sw_in (List.mem_append_right _ (List.mem_of_getElem? (i := 53) (by decide +kernel))) (by decide +kernel), rfl, rfl, by decide +kernel⟩
theorem gX5_27 : gw_FP RX5 27 5 5 false .int := ⟨RX5, TX5, 13, rfl, by decide, sw_in (List.mem_append_right _ (List.mem_of_getElem? (i := 55) (by decide +kernel))) (by decide +kernel), rfl, rfl, by decide +kernel⟩
theorem gX5_35 : gw_FP RX5 35 5 6 true (.object "MadeLand$Row") := ⟨RX5, TX5, 13, rfl, by decide, sw_in (List.mem_append_right _ (List.mem_of_getElem? (i := 57) (by decide +kernel))) (by decide +kernel), rfl, rfl, by decide +kernel⟩
theorem gX5_39 : gw_FP RX5 39 5 7 true (.object "MadeLand$Row") := ⟨RX5, TX5, 13, rfl, by decide, sw_in (List.mem_append_right _ (List.mem_of_getElem? (i := 59) (by decide +kernel))) (by decide +kernel), rfl, rfl, by decide +kernel⟩
theorem gX5_42 : gw_FP RX5 42 5 8 true (.object "MadeLand$Row") := ⟨RX5, TX5, 13, rfl, by decide, sw_in (List.mem_append_right _ (List.mem_of_getElem? (i := 61) (by decide +kernel))) (by decide +kernel), rfl, rfl, by decide +kernel⟩
theorem gX5_45 : gw_FP RX5 45 5 9 true (.object "MadeLand$Row") := ⟨RX5, TX5, 13, rfl, by decide, sw_in (List.mem_append_right _ (List.mem_of_getElem? (i := 63) (by decide +kernel))) (by decide +kernel), rfl, rfl, by decide +kernel⟩
theorem gX5_48 : gw_FP RX5 48 5 10 true (.object "MadeLand$Row") := ⟨RX5, TX5, 13, rfl, by decide, sw_in (List.mem_append_right _ (List.mem_of_getElem? (i := 64) (by decide +kernel))) (by decide +kernel), rfl, rfl, by decide +kernel⟩
theorem gX5_51 : gw_FP RX5 51 5 11 true (.object "MadeLand$Row") := ⟨RX5, TX5, 13, rfl, by decide, sw_in (List.mem_append_right _ (List.mem_of_getElem? (i := 65) (by decide +kernel))) (by decide +kernel), rfl, rfl, by decide +kernel⟩
theorem gX5_54 : gw_FP RX5 54 5 12 true (.object "MadeLand$Row") := ⟨RX5, TX5, 13, rfl, by decide, sw_in (List.mem_append_right _ (List.mem_of_getElem? (i := 66) (by decide +kernel))) (by decide +kernel), rfl, rfl, by decide +kernel⟩
theorem gX6_14 : gw_FP RX6 14 6 0 true (.object "MadeLand$Row") := ⟨RX6, TX6, 9, rfl, by decide, sw_in (List.mem_append_right _ (List.mem_of_getElem? (i := 106) (by decide +kernel))) (by decide +kernel), rfl, rfl, by decide +kernel⟩
theorem gX6_20 : gw_FP RX6 20 6 1 true (.object "MadeLand$Row") := ⟨RX6, TX6, 9, rfl, by decide, sw_in (List.mem_append_right _ (List.mem_of_getElem? (i := 109) (by decide +kernel))) (by decide +kernel), rfl, rfl, by decide +kernel⟩
theorem gX6_23 : gw_FP RX6 23 6 2 true (.object "MadeLand$Row") := ⟨RX6, TX6, 9, rfl, by decide, sw_in (List.mem_append_right _ (List.mem_of_getElem? (i := 111) (by decide +kernel))) (by decide +kernel), rfl, rfl, by decide +kernel⟩
theorem gX6_26 : gw_FP RX6 26 6 3 true (.object "MadeLand$Row") := ⟨RX6, TX6, 9, rfl, by decide, sw_in (List.mem_append_right _ (List.mem_of_getElem? (i := 114) (by decide +kernel))) (by decide +kernel), rfl, rfl, by decide +kernel⟩
theorem gX6_29 : gw_FP RX6 29 6 4 true (.object "MadeLand$Row") := ⟨RX6, TX6, 9, rfl, by decide, sw_in (List.mem_append_right _ (List.mem_of_getElem? (i := 116) (by decide +kernel))) (by decide +kernel), rfl, rfl, by decide +kernel⟩
theorem gX6_32 : gw_FP RX6 32 6 5 true (.object "MadeLand$Row") := ⟨RX6, TX6, 9, rfl, by decide, sw_in (List.mem_append_right _ (List.mem_of_getElem? (i := 118) (by decide +kernel))) (by decide +kernel), rfl, rfl, by decide +kernel⟩
theorem gX6_35 : gw_FP RX6 35 6 6 true (.object "MadeLand$Row") := ⟨RX6, TX6, 9, rfl, by decide, sw_in (List.mem_append_right _ (List.mem_of_getElem? (i := 119) (by decide +kernel))) (by decide +kernel), rfl, rfl, by decide +kernel⟩
theorem gX6_38 : gw_FP RX6 38 6 7 true (.object "MadeLand$Row") := ⟨RX6, TX6, 9, rfl, by decide, sw_in (List.mem_append_right _ (List.mem_of_getElem? (i := 120) (by decide +kernel))) (by decide +kernel), rfl, rfl, by decide +kernel⟩
theorem gX6_41 : gw_FP RX6 41 6 8 false .int := ⟨RX6, TX6, 9, rfl, by decide, sw_in (List.mem_append_right _ (List.mem_of_getElem? (i := 125) (by decide +kernel))) (by decide +kernel), rfl, rfl, by decide +kernel⟩
theorem gX8_7 : gw_FP RX8 7 8 1 false .int := ⟨RX8, TX8, 30, rfl, by decide, sw_in (List.mem_append_right _ (List.mem_of_getElem? (i := 633) (by decide +kernel))) (by decide +kernel), rfl, rfl, by decide +kernel⟩
theorem gX8_13 : gw_FP RX8 13 8 4 true (.array .int) := ⟨RX8, TX8, 30, rfl, by decide, sw_in (List.mem_append_right _ (List.mem_of_getElem? (i := 636) (by decide +kernel))) (by decide +kernel), rfl, rfl, by decide +kernel⟩
theorem gX8_17 : gw_FP RX8 17 8 7 true (.array .int) := ⟨RX8, TX8, 30, rfl, by decide, sw_in (List.mem_append_right _ (List.mem_of_getElem? (i := 639) (by decide +kernel))) (by decide +kernel), rfl, rfl, by decide +kernel⟩
theorem gX8_20 : gw_FP RX8 20 8 8 true (.array .int) := ⟨RX8, TX8, 30, rfl, by decide, sw_in (List.mem_append_right _ (List.mem_of_getElem? (i := 640) (by decide +kernel))) (by decide +kernel), rfl, rfl, by decide +kernel⟩
theorem gX8_23 : gw_FP RX8 23 8 9 true (.array .int) := ⟨RX8, TX8, 30, rfl, by decide, sw_in (List.mem_append_right _ (List.mem_of_getElem? (i := 641) (by decide +kernel))) (by decide +kernel), rfl, rfl, by decide +kernel⟩
theorem gX8_26 : gw_FP RX8 26 8 11 true (.array .int) := ⟨RX8, TX8, 30, rfl, by decide, sw_in (List.mem_append_right _ (List.mem_of_getElem? (i := 643) (by decide +kernel))) (by decide +kernel), rfl, rfl, by decide +kernel⟩
theorem gX8_29 : gw_FP RX8 29 8 12 true (.array .int) := ⟨RX8, TX8, 30, rfl, by decide, sw_in (List.mem_append_right _ (List.mem_of_getElem? (i := 644) (by decide +kernel))) (by decide +kernel), rfl, rfl, by decide +kernel⟩
theorem gX8_32 : gw_FP RX8 32 8 13 true (.array .int) := ⟨RX8, TX8, 30, rfl, by decide, sw_in (List.mem_append_right _ (List.mem_of_getElem? (i := 645) (by decide +kernel))) (by decide +kernel), rfl, rfl, by decide +kernel⟩
theorem gX8_35 : gw_FP RX8 35 8 14 true (.array .int) := ⟨RX8, TX8, 30, rfl, by decide, sw_in (List.mem_append_right _ (List.mem_of_getElem? (i := 646) (by decide +kernel))) (by decide +kernel), rfl, rfl, by decide +kernel⟩
theorem gX8_38 : gw_FP RX8 38 8 15 true (.array .int) := ⟨RX8, TX8, 30, rfl, by decide, sw_in (List.mem_append_right _ (List.mem_of_getElem? (i := 647) (by decide +kernel))) (by decide +kernel), rfl, rfl, by decide +kernel⟩
theorem gX8_41 : gw_FP RX8 41 8 16 true (.array .int) := ⟨RX8, TX8, 30, rfl, by decide, sw_in (List.mem_append_right _ (List.mem_of_getElem? (i := 648) (by decide +kernel))) (by decide +kernel), rfl, rfl, by decide +kernel⟩
theorem gX8_44 : gw_FP RX8 44 8 17 true (.array .int) := ⟨RX8, TX8, 30, rfl, by decide, sw_in (List.mem_append_right _ (List.mem_of_getElem? (i := 649) (by decide +kernel))) (by decide +kernel), rfl, rfl, by decide +kernel⟩
theorem gX8_47 : gw_FP RX8 47 8 20 true (.array .int) := ⟨RX8, TX8, 30, rfl, by decide, sw_in (List.mem_append_right _ (List.mem_of_getElem? (i := 652) (by decide +kernel))) (by decide +kernel), rfl, rfl, by decide +kernel⟩
theorem gX8_50 : gw_FP RX8 50 8 24 true (.array .int) := ⟨RX8, TX8, 30, rfl, by decide, sw_in (List.mem_append_right _ (List.mem_of_getElem? (i := 656) (by decide +kernel))) (by decide +kernel), rfl, rfl, by decide +kernel⟩
theorem gX8_53 : gw_FP RX8 53 8 25 true (.array .int) := ⟨RX8, TX8, 30, rfl, by decide, sw_in (List.mem_append_right _ (List.mem_of_getElem? (i := 657) (by decide +kernel))) (by decide +kernel), rfl, rfl, by decide +kernel⟩
theorem gX8_56 : gw_FP RX8 56 8 26 true (.array .int) := ⟨RX8, TX8, 30, rfl, by decide, sw_in (List.mem_append_right _ (List.mem_of_getElem? (i := 658) (by decide +kernel))) (by decide +kernel), rfl, rfl, by decide +kernel⟩
theorem gX8_59 : gw_FP RX8 59 8 27 true (.array .int) := ⟨RX8, TX8, 30, rfl, by decide, sw_in (List.mem_append_right _ (List.mem_of_getElem? (i := 659) (by decide +kernel))) (by decide +kernel), rfl, rfl, by decide +kernel⟩
theorem gX8_62 : gw_FP RX8 62 8 28 true (.array .boolean) := ⟨RX8, TX8, 30, rfl, by decide, sw_in (List.mem_append_right _ (List.mem_of_getElem? (i := 660) (by decide +kernel))) (by decide +kernel), rfl, rfl, by decide +kernel⟩
theorem gX8_66 : gw_FP RX8 66 8 29 true (.array .int) := ⟨RX8, TX8, 30, rfl, by decide, sw_in (List.mem_append_right _ (List.mem_of_getElem? (i := 661) (by decide +kernel))) (by decide +kernel), rfl, rfl, by decide +kernel⟩
theorem bX0_init (own : String) (idx : Nat) : sw_CB own idx 0 mX0_init := ⟨by decide, sw_in (List.mem_append_right _ (List.mem_of_getElem? (i := 231) (by decide +kernel))) (by decide +kernel), sw_in (List.mem_append_right _ (List.mem_of_getElem? (i := 9) (by decide +kernel))) (by decide +kernel), ⟨by decide +kernel, by decide +kernel⟩, by decide +kernel⟩
theorem eX0_init : Cond.instanceMethod yX0_init ∈ sw_W := sw_in (List.mem_append_right _ (List.mem_of_getElem? (i := 230) (by decide +kernel))) (by decide +kernel)
theorem bX1_init (own : String) (idx : Nat) : sw_CB own idx 0 mX1_init := ⟨by decide, sw_in (List.mem_append_right _ (List.mem_of_getElem? (i := 194) (by decide +kernel))) (by decide +kernel), sw_in (List.mem_append_right _ (List.mem_of_getElem? (i := 8) (by decide +kernel))) (by decide +kernel), ⟨by decide +kernel, by decide +kernel⟩, by decide +kernel⟩
theorem eX1_init : Cond.instanceMethod yX1_init ∈ sw_W := sw_in (List.mem_append_right _ (List.mem_of_getElem? (i := 193) (by decide +kernel))) (by decide +kernel)
theorem bX2_init (own : String) (idx : Nat) : sw_CB own idx 0 mX2_init := ⟨by decide, sw_in (List.mem_append_right _ (List.mem_of_getElem? (i := 149) (by decide +kernel))) (by decide +kernel), sw_in (List.mem_append_right _ (List.mem_of_getElem? (i := 6) (by decide +kernel))) (by decide +kernel), ⟨by decide +kernel, by decide +kernel⟩, by decide +kernel⟩
theorem eX2_init : Cond.instanceMethod yX2_init ∈ sw_W := sw_in (List.mem_append_right _ (List.mem_of_getElem? (i := 148) (by decide +kernel))) (by decide +kernel)
theorem bX3_init (own : String) (idx : Nat) : sw_CB own idx 1 mX3_init := ⟨by decide, sw_in (List.mem_append_right _ (List.mem_of_getElem? (i := 31) (by decide +kernel))) (by decide +kernel), sw_in (List.mem_append_right _ (List.mem_of_getElem? (i := 3) (by decide +kernel))) (by decide +kernel), ⟨by decide +kernel, by decide +kernel⟩, by decide +kernel⟩
theorem eX3_init : Cond.instanceMethod yX3_init ∈ sw_W := sw_in (List.mem_append_right _ (List.mem_of_getElem? (i := 30) (by decide +kernel))) (by decide +kernel)
theorem bX4_init (own : String) (idx : Nat) : sw_CB own idx 0 mX4_init := ⟨by decide, sw_in (List.mem_append_right _ (List.mem_of_getElem? (i := 171) (by decide +kernel))) (by decide +kernel), sw_in (List.mem_append_right _ (List.mem_of_getElem? (i := 7) (by decide +kernel))) (by decide +kernel), ⟨by decide +kernel, by decide +kernel⟩, by decide +kernel⟩
theorem eX4_init : Cond.instanceMethod yX4_init ∈ sw_W := sw_in (List.mem_append_right _ (List.mem_of_getElem? (i := 170) (by decide +kernel))) (by decide +kernel)
theorem bX5_init (own : String) (idx : Nat) : sw_CB own idx 0 mX5_init := ⟨by decide, sw_in (List.mem_append_right _ (List.mem_of_getElem? (i := 25) (by decide +kernel))) (by decide +kernel), sw_in (List.mem_append_right _ (List.mem_of_getElem? (i := 2) (by decide +kernel))) (by decide +kernel), ⟨by decide +kernel, by decide +kernel⟩, by decide +kernel⟩
theorem eX5_init : Cond.instanceMethod yX5_init ∈ sw_W := sw_in (List.mem_append_right _ (List.mem_of_getElem? (i := 24) (by decide +kernel))) (by decide +kernel)
theorem bX6_init (own : String) (idx : Nat) : sw_CB own idx 0 mX6_init := ⟨by decide, sw_in (List.mem_append_right _ (List.mem_of_getElem? (i := 102) (by decide +kernel))) (by decide +kernel), sw_in (List.mem_append_right _ (List.mem_of_getElem? (i := 5) (by decide +kernel))) (by decide +kernel), ⟨by decide +kernel, by decide +kernel⟩, by decide +kernel⟩
theorem eX6_init : Cond.instanceMethod yX6_init ∈ sw_W := sw_in (List.mem_append_right _ (List.mem_of_getElem? (i := 101) (by decide +kernel))) (by decide +kernel)
theorem bX7_init (own : String) (idx : Nat) : sw_CB own idx 0 mX7_init := ⟨by decide, sw_in (List.mem_append_right _ (List.mem_of_getElem? (i := 17) (by decide +kernel))) (by decide +kernel), sw_in (List.mem_append_right _ (List.mem_of_getElem? (i := 1) (by decide +kernel))) (by decide +kernel), ⟨by decide +kernel, by decide +kernel⟩, by decide +kernel⟩
theorem eX7_init : Cond.instanceMethod yX7_init ∈ sw_W := sw_in (List.mem_append_right _ (List.mem_of_getElem? (i := 16) (by decide +kernel))) (by decide +kernel)
theorem bX8_init (own : String) (idx : Nat) : sw_CB own idx 0 mX8_init := ⟨by decide, sw_in (List.mem_append_right _ (List.mem_of_getElem? (i := 630) (by decide +kernel))) (by decide +kernel), sw_in (List.mem_append_right _ (List.mem_of_getElem? (i := 10) (by decide +kernel))) (by decide +kernel), ⟨by decide +kernel, by decide +kernel⟩, by decide +kernel⟩
theorem eX8_init : Cond.instanceMethod yX8_init ∈ sw_W := sw_in (List.mem_append_right _ (List.mem_of_getElem? (i := 629) (by decide +kernel))) (by decide +kernel)
theorem cL_9 : gw_CI RL 9 0 mX7_init := ⟨bX7_init _ _, sw_in (List.mem_append_right _ (List.mem_of_getElem? (i := 15) (by decide +kernel))) (by decide +kernel), eX7_init, rfl, rfl⟩
theorem cX7_11 : gw_CIN RX7 11 0 mX5_init := ⟨bX5_init _ _, ⟨"MadeLand", List.mem_append_right _ (List.mem_of_getElem? (i := 23) (by decide +kernel))⟩, eX5_init, rfl, rfl⟩
theorem cX5_32 : gw_CI RX5 32 1 mX3_init := ⟨bX3_init _ _, sw_in (List.mem_append_right _ (List.mem_of_getElem? (i := 29) (by decide +kernel))) (by decide +kernel), eX3_init, rfl, rfl⟩
theorem cX7_18 : gw_CIN RX7 18 0 mX6_init := ⟨bX6_init _ _, ⟨"MadeLand", List.mem_append_right _ (List.mem_of_getElem? (i := 100) (by decide +kernel))⟩, eX6_init, rfl, rfl⟩
theorem cX6_11 : gw_CI RX6 11 1 mX3_init := ⟨bX3_init _ _, sw_in (List.mem_append_right _ (List.mem_of_getElem? (i := 105) (by decide +kernel))) (by decide +kernel), eX3_init, rfl, rfl⟩
theorem cX7_25 : gw_CIN RX7 25 0 mX2_init := ⟨bX2_init _ _, ⟨"MadeLand", List.mem_append_right _ (List.mem_of_getElem? (i := 147) (by decide +kernel))⟩, eX2_init, rfl, rfl⟩
theorem cX2_11 : gw_CI RX2 11 1 mX3_init := ⟨bX3_init _ _, sw_in (List.mem_append_right _ (List.mem_of_getElem? (i := 152) (by decide +kernel))) (by decide +kernel), eX3_init, rfl, rfl⟩
theorem cX7_32 : gw_CIN RX7 32 0 mX4_init := ⟨bX4_init _ _, ⟨"MadeLand", List.mem_append_right _ (List.mem_of_getElem? (i := 169) (by decide +kernel))⟩, eX4_init, rfl, rfl⟩
theorem cX4_11 : gw_CI RX4 11 1 mX3_init := ⟨bX3_init _ _, sw_in (List.mem_append_right _ (List.mem_of_getElem? (i := 174) (by decide +kernel))) (by decide +kernel), eX3_init, rfl, rfl⟩
theorem cX7_39 : gw_CIN RX7 39 0 mX1_init := ⟨bX1_init _ _, ⟨"MadeLand", List.mem_append_right _ (List.mem_of_getElem? (i := 192) (by decide +kernel))⟩, eX1_init, rfl, rfl⟩
theorem cX1_11 : gw_CI RX1 11 1 mX3_init := ⟨bX3_init _ _, sw_in (List.mem_append_right _ (List.mem_of_getElem? (i := 197) (by decide +kernel))) (by decide +kernel), eX3_init, rfl, rfl⟩
theorem cX7_46 : gw_CIN RX7 46 0 mX0_init := ⟨bX0_init _ _, ⟨"MadeLand", List.mem_append_right _ (List.mem_of_getElem? (i := 229) (by decide +kernel))⟩, eX0_init, rfl, rfl⟩
theorem cX0_13 : gw_CI RX0 13 1 mX3_init := ⟨bX3_init _ _, sw_in (List.mem_append_right _ (List.mem_of_getElem? (i := 234) (by decide +kernel))) (by decide +kernel), eX3_init, rfl, rfl⟩
theorem cX7_53 : gw_CI RX7 53 1 mX3_init := ⟨bX3_init _ _, sw_in (List.mem_append_right _ (List.mem_of_getElem? (i := 246) (by decide +kernel))) (by decide +kernel), eX3_init, rfl, rfl⟩
theorem cL_12 : gw_CI RL 12 0 mX8_init := ⟨bX8_init _ _, sw_in (List.mem_append_right _ (List.mem_of_getElem? (i := 628) (by decide +kernel))) (by decide +kernel), eX8_init, rfl, rfl⟩
theorem mx_l : Cond.methodLink RX3 9 Lib.Math.max.name ∈ sw_W := sw_in (List.mem_append_right _ (List.mem_of_getElem? (i := 33) (by decide +kernel))) (by decide +kernel)
theorem mx_s : Cond.static Lib.Math.max.name ∈ sw_W := sw_in (List.mem_append_right _ (List.mem_of_getElem? (i := 34) (by decide +kernel))) (by decide +kernel)
theorem mx_i : Cond.initialized "java/lang/Math" ∈ sw_W := sw_in (List.mem_append_right _ (List.mem_of_getElem? (i := 4) (by decide +kernel))) (by decide +kernel)
theorem mx_c : Cond.code Lib.Math.max.name Lib.Math.max.code 2 (some .int) ∈ sw_W := sw_in (List.mem_append_right _ (List.mem_of_getElem? (i := 35) (by decide +kernel))) (by decide +kernel)
theorem sl_FIRST : Cond.fieldLink RX7 67 "MadeLand" "RULE_FIRST" "[I" ∈ sw_W := sw_in (List.mem_append_right _ (List.mem_of_getElem? (i := 247) (by decide +kernel))) (by decide +kernel)
theorem ss_FIRST : Cond.laysStatic "MadeLand" "RULE_FIRST" "[I" ∈ lw_tbl := List.mem_append_right _ (List.mem_of_getElem? (i := 248) (by decide +kernel))
theorem sl_LEAST : Cond.fieldLink RX7 129 "MadeLand" "RULE_LEAST" "[I" ∈ sw_W := sw_in (List.mem_append_right _ (List.mem_of_getElem? (i := 540) (by decide +kernel))) (by decide +kernel)
theorem ss_LEAST : Cond.laysStatic "MadeLand" "RULE_LEAST" "[I" ∈ lw_tbl := List.mem_append_right _ (List.mem_of_getElem? (i := 541) (by decide +kernel))
theorem sl_MOST : Cond.fieldLink RX7 132 "MadeLand" "RULE_MOST" "[I" ∈ sw_W := sw_in (List.mem_append_right _ (List.mem_of_getElem? (i := 542) (by decide +kernel))) (by decide +kernel)
theorem ss_MOST : Cond.laysStatic "MadeLand" "RULE_MOST" "[I" ∈ lw_tbl := List.mem_append_right _ (List.mem_of_getElem? (i := 543) (by decide +kernel))
