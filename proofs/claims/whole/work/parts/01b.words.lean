def T0 : List Cond := lw_tbl.filter goodWord
theorem mT {w : Cond} (h : w ∈ lw_tbl) (hg : goodWord w = true) : w ∈ T0 := List.mem_filter.mpr ⟨h, hg⟩
theorem T0_in {w : Cond} (h : w ∈ T0) : w ∈ lw_tbl := (List.mem_filter.mp h).1
theorem T0_good : GoodIn T0 T0 := fun _ h => ⟨h, good_of_word (List.mem_filter.mp h).2⟩
set_option maxRecDepth 20000 in
theorem wi_L : Cond.initialized RL ∈ T0 := mT (List.mem_append_right _ (List.mem_append_left _ (List.mem_of_getElem? (i := 0) (by decide +kernel)))) (by decide +kernel)
set_option maxRecDepth 20000 in
theorem wi_X5 : Cond.initialized RX5 ∈ T0 := mT (List.mem_append_right _ (List.mem_append_left _ (List.mem_of_getElem? (i := 1) (by decide +kernel)))) (by decide +kernel)
set_option maxRecDepth 20000 in
theorem wi_X3 : Cond.initialized RX3 ∈ T0 := mT (List.mem_append_right _ (List.mem_append_left _ (List.mem_of_getElem? (i := 2) (by decide +kernel)))) (by decide +kernel)
set_option maxRecDepth 20000 in
theorem wi_X2 : Cond.initialized RX2 ∈ T0 := mT (List.mem_append_right _ (List.mem_append_left _ (List.mem_of_getElem? (i := 3) (by decide +kernel)))) (by decide +kernel)
set_option maxRecDepth 20000 in
theorem wi_X0 : Cond.initialized RX0 ∈ T0 := mT (List.mem_append_right _ (List.mem_append_left _ (List.mem_of_getElem? (i := 4) (by decide +kernel)))) (by decide +kernel)
set_option maxRecDepth 20000 in
theorem wi_X4 : Cond.initialized RX4 ∈ T0 := mT (List.mem_append_right _ (List.mem_append_left _ (List.mem_of_getElem? (i := 5) (by decide +kernel)))) (by decide +kernel)
set_option maxRecDepth 20000 in
theorem wi_X1 : Cond.initialized RX1 ∈ T0 := mT (List.mem_append_right _ (List.mem_append_left _ (List.mem_of_getElem? (i := 6) (by decide +kernel)))) (by decide +kernel)
set_option maxRecDepth 20000 in
theorem wi_X6 : Cond.initialized RX6 ∈ T0 := mT (List.mem_append_right _ (List.mem_append_left _ (List.mem_of_getElem? (i := 7) (by decide +kernel)))) (by decide +kernel)
set_option maxRecDepth 20000 in
theorem wL_L_7 : Cond.classLink RL 7 RX5 ∈ T0 := mT (List.mem_append_right _ (List.mem_append_left _ (List.mem_of_getElem? (i := 8) (by decide +kernel)))) (by decide +kernel)
set_option maxRecDepth 20000 in
theorem wn_X5 : Cond.instantiable RX5 8 ∈ T0 := mT (List.mem_append_right _ (List.mem_append_left _ (List.mem_of_getElem? (i := 9) (by decide +kernel)))) (by decide +kernel)
set_option maxRecDepth 20000 in
theorem wM_L_9 : Cond.methodLink RL 9 yX5_init ∈ T0 := mT (List.mem_append_right _ (List.mem_append_left _ (List.mem_of_getElem? (i := 10) (by decide +kernel)))) (by decide +kernel)
set_option maxRecDepth 20000 in
theorem wN_X5_init : Cond.instanceMethod yX5_init ∈ T0 := mT (List.mem_append_right _ (List.mem_append_left _ (List.mem_of_getElem? (i := 11) (by decide +kernel)))) (by decide +kernel)
set_option maxRecDepth 20000 in
theorem wC_X5_init : Cond.code yX5_init cX5_init 2 (none : Option FieldType) ∈ T0 := mT (List.mem_append_right _ (List.mem_append_left _ (List.mem_of_getElem? (i := 12) (by decide +kernel)))) (by decide +kernel)
set_option maxRecDepth 20000 in
theorem wM_X5_1 : Cond.methodLink RX5 1 objectInit ∈ T0 := mT (List.mem_append_right _ (List.mem_append_left _ (List.mem_of_getElem? (i := 13) (by decide +kernel)))) (by decide +kernel)
set_option maxRecDepth 20000 in
theorem wN_obj : Cond.instanceMethod objectInit ∈ T0 := mT (List.mem_append_right _ (List.mem_append_left _ (List.mem_of_getElem? (i := 14) (by decide +kernel)))) (by decide +kernel)
set_option maxRecDepth 20000 in
theorem wC_obj : Cond.code objectInit ⟨#[0xb1]⟩ 1 none ∈ T0 := mT (List.mem_append_right _ (List.mem_append_left _ (List.mem_of_getElem? (i := 15) (by decide +kernel)))) (by decide +kernel)
set_option maxRecDepth 20000 in
theorem wL_X5_7 : Cond.classLink RX5 7 RX3 ∈ T0 := mT (List.mem_append_right _ (List.mem_append_left _ (List.mem_of_getElem? (i := 16) (by decide +kernel)))) (by decide +kernel)
set_option maxRecDepth 20000 in
theorem wn_X3 : Cond.instantiable RX3 3 ∈ T0 := mT (List.mem_append_right _ (List.mem_append_left _ (List.mem_of_getElem? (i := 17) (by decide +kernel)))) (by decide +kernel)
set_option maxRecDepth 20000 in
theorem wM_X5_9 : Cond.methodLink RX5 9 yX3_init ∈ T0 := mT (List.mem_append_right _ (List.mem_append_left _ (List.mem_of_getElem? (i := 18) (by decide +kernel)))) (by decide +kernel)
set_option maxRecDepth 20000 in
theorem wN_X3_init : Cond.instanceMethod yX3_init ∈ T0 := mT (List.mem_append_right _ (List.mem_append_left _ (List.mem_of_getElem? (i := 19) (by decide +kernel)))) (by decide +kernel)
set_option maxRecDepth 20000 in
theorem wC_X3_init : Cond.code yX3_init cX3_init 1 (none : Option FieldType) ∈ T0 := mT (List.mem_append_right _ (List.mem_append_left _ (List.mem_of_getElem? (i := 20) (by decide +kernel)))) (by decide +kernel)
set_option maxRecDepth 20000 in
theorem wM_X3_3 : Cond.methodLink RX3 3 objectInit ∈ T0 := mT (List.mem_append_right _ (List.mem_append_left _ (List.mem_of_getElem? (i := 21) (by decide +kernel)))) (by decide +kernel)
set_option maxRecDepth 20000 in
theorem wF_X3_9 : Cond.fieldLink RX3 9 "ProcessTurns$Program" "ops" "[I" ∈ T0 := mT (List.mem_append_right _ (List.mem_append_left _ (List.mem_of_getElem? (i := 22) (by decide +kernel)))) (by decide +kernel)
set_option maxRecDepth 20000 in
theorem wF_X3_15 : Cond.fieldLink RX3 15 "ProcessTurns$Program" "operands" "[I" ∈ T0 := mT (List.mem_append_right _ (List.mem_append_left _ (List.mem_of_getElem? (i := 23) (by decide +kernel)))) (by decide +kernel)
set_option maxRecDepth 20000 in
theorem wF_X3_18 : Cond.fieldLink RX3 18 "ProcessTurns$Program" "size" "I" ∈ T0 := mT (List.mem_append_right _ (List.mem_append_left _ (List.mem_of_getElem? (i := 24) (by decide +kernel)))) (by decide +kernel)
set_option maxRecDepth 20000 in
theorem wF_X5_61 : Cond.fieldLink RX5 61 "ProcessTurns$Program" "size" "I" ∈ T0 := mT (List.mem_append_right _ (List.mem_append_left _ (List.mem_of_getElem? (i := 25) (by decide +kernel)))) (by decide +kernel)
set_option maxRecDepth 20000 in
theorem wA_int : Cond.arrayClass FieldType.int ∈ T0 := mT (List.mem_append_right _ (List.mem_append_left _ (List.mem_of_getElem? (i := 33) (by decide +kernel)))) (by decide +kernel)
set_option maxRecDepth 20000 in
theorem wL_X5_16 : Cond.classLink RX5 16 RX2 ∈ T0 := mT (List.mem_append_right _ (List.mem_append_left _ (List.mem_of_getElem? (i := 34) (by decide +kernel)))) (by decide +kernel)
set_option maxRecDepth 20000 in
theorem wO_X2 : Cond.arrayOver (.object RX2) ∈ lw_tbl := List.mem_append_right _ (List.mem_append_left _ (List.mem_of_getElem? (i := 35) (by decide +kernel)))
set_option maxRecDepth 20000 in
theorem wn_X2 : Cond.instantiable RX2 10 ∈ T0 := mT (List.mem_append_right _ (List.mem_append_left _ (List.mem_of_getElem? (i := 36) (by decide +kernel)))) (by decide +kernel)
set_option maxRecDepth 20000 in
theorem wM_X5_22 : Cond.methodLink RX5 22 yX2_init ∈ T0 := mT (List.mem_append_right _ (List.mem_append_left _ (List.mem_of_getElem? (i := 37) (by decide +kernel)))) (by decide +kernel)
set_option maxRecDepth 20000 in
theorem wN_X2_init : Cond.instanceMethod yX2_init ∈ T0 := mT (List.mem_append_right _ (List.mem_append_left _ (List.mem_of_getElem? (i := 38) (by decide +kernel)))) (by decide +kernel)
set_option maxRecDepth 20000 in
theorem wC_X2_init : Cond.code yX2_init cX2_init 2 (none : Option FieldType) ∈ T0 := mT (List.mem_append_right _ (List.mem_append_left _ (List.mem_of_getElem? (i := 39) (by decide +kernel)))) (by decide +kernel)
set_option maxRecDepth 20000 in
theorem wM_X2_3 : Cond.methodLink RX2 3 objectInit ∈ T0 := mT (List.mem_append_right _ (List.mem_append_left _ (List.mem_of_getElem? (i := 40) (by decide +kernel)))) (by decide +kernel)
set_option maxRecDepth 20000 in
theorem wF_X2_9 : Cond.fieldLink RX2 9 "ProcessTurns$Proc" "number" "I" ∈ T0 := mT (List.mem_append_right _ (List.mem_append_left _ (List.mem_of_getElem? (i := 41) (by decide +kernel)))) (by decide +kernel)
set_option maxRecDepth 20000 in
theorem wF_X0_31 : Cond.fieldLink RX0 31 "ProcessTurns$Proc" "number" "I" ∈ T0 := mT (List.mem_append_right _ (List.mem_append_left _ (List.mem_of_getElem? (i := 42) (by decide +kernel)))) (by decide +kernel)
set_option maxRecDepth 20000 in
theorem wF_X4_21 : Cond.fieldLink RX4 21 "ProcessTurns$Proc" "number" "I" ∈ T0 := mT (List.mem_append_right _ (List.mem_append_left _ (List.mem_of_getElem? (i := 43) (by decide +kernel)))) (by decide +kernel)
set_option maxRecDepth 20000 in
theorem wF_X5_87 : Cond.fieldLink RX5 87 "ProcessTurns$Proc" "number" "I" ∈ T0 := mT (List.mem_append_right _ (List.mem_append_left _ (List.mem_of_getElem? (i := 44) (by decide +kernel)))) (by decide +kernel)
set_option maxRecDepth 20000 in
theorem wF_X2_15 : Cond.fieldLink RX2 15 "ProcessTurns$Proc" "words" "[I" ∈ T0 := mT (List.mem_append_right _ (List.mem_append_left _ (List.mem_of_getElem? (i := 45) (by decide +kernel)))) (by decide +kernel)
set_option maxRecDepth 20000 in
theorem wF_X2_19 : Cond.fieldLink RX2 19 "ProcessTurns$Proc" "state" "I" ∈ T0 := mT (List.mem_append_right _ (List.mem_append_left _ (List.mem_of_getElem? (i := 46) (by decide +kernel)))) (by decide +kernel)
set_option maxRecDepth 20000 in
theorem wF_X0_26 : Cond.fieldLink RX0 26 "ProcessTurns$Proc" "state" "I" ∈ T0 := mT (List.mem_append_right _ (List.mem_append_left _ (List.mem_of_getElem? (i := 47) (by decide +kernel)))) (by decide +kernel)
set_option maxRecDepth 20000 in
theorem wF_X5_80 : Cond.fieldLink RX5 80 "ProcessTurns$Proc" "state" "I" ∈ T0 := mT (List.mem_append_right _ (List.mem_append_left _ (List.mem_of_getElem? (i := 48) (by decide +kernel)))) (by decide +kernel)
set_option maxRecDepth 20000 in
theorem wF_X2_22 : Cond.fieldLink RX2 22 "ProcessTurns$Proc" "priority" "I" ∈ T0 := mT (List.mem_append_right _ (List.mem_append_left _ (List.mem_of_getElem? (i := 49) (by decide +kernel)))) (by decide +kernel)
set_option maxRecDepth 20000 in
theorem wF_X5_133 : Cond.fieldLink RX5 133 "ProcessTurns$Proc" "priority" "I" ∈ T0 := mT (List.mem_append_right _ (List.mem_append_left _ (List.mem_of_getElem? (i := 50) (by decide +kernel)))) (by decide +kernel)
set_option maxRecDepth 20000 in
theorem wF_X2_25 : Cond.fieldLink RX2 25 "ProcessTurns$Proc" "place" "I" ∈ T0 := mT (List.mem_append_right _ (List.mem_append_left _ (List.mem_of_getElem? (i := 51) (by decide +kernel)))) (by decide +kernel)
set_option maxRecDepth 20000 in
theorem wF_X5_167 : Cond.fieldLink RX5 167 "ProcessTurns$Proc" "place" "I" ∈ T0 := mT (List.mem_append_right _ (List.mem_append_left _ (List.mem_of_getElem? (i := 52) (by decide +kernel)))) (by decide +kernel)
set_option maxRecDepth 20000 in
theorem wF_X2_28 : Cond.fieldLink RX2 28 "ProcessTurns$Proc" "a" "I" ∈ T0 := mT (List.mem_append_right _ (List.mem_append_left _ (List.mem_of_getElem? (i := 53) (by decide +kernel)))) (by decide +kernel)
set_option maxRecDepth 20000 in
theorem wF_X5_193 : Cond.fieldLink RX5 193 "ProcessTurns$Proc" "a" "I" ∈ T0 := mT (List.mem_append_right _ (List.mem_append_left _ (List.mem_of_getElem? (i := 54) (by decide +kernel)))) (by decide +kernel)
set_option maxRecDepth 20000 in
theorem wF_X2_31 : Cond.fieldLink RX2 31 "ProcessTurns$Proc" "b" "I" ∈ T0 := mT (List.mem_append_right _ (List.mem_append_left _ (List.mem_of_getElem? (i := 55) (by decide +kernel)))) (by decide +kernel)
set_option maxRecDepth 20000 in
theorem wF_X5_213 : Cond.fieldLink RX5 213 "ProcessTurns$Proc" "b" "I" ∈ T0 := mT (List.mem_append_right _ (List.mem_append_left _ (List.mem_of_getElem? (i := 56) (by decide +kernel)))) (by decide +kernel)
set_option maxRecDepth 20000 in
theorem wF_X2_34 : Cond.fieldLink RX2 34 "ProcessTurns$Proc" "c" "I" ∈ T0 := mT (List.mem_append_right _ (List.mem_append_left _ (List.mem_of_getElem? (i := 57) (by decide +kernel)))) (by decide +kernel)
set_option maxRecDepth 20000 in
theorem wF_X5_151 : Cond.fieldLink RX5 151 "ProcessTurns$Proc" "wakeTime" "I" ∈ T0 := mT (List.mem_append_right _ (List.mem_append_left _ (List.mem_of_getElem? (i := 58) (by decide +kernel)))) (by decide +kernel)
set_option maxRecDepth 20000 in
theorem wF_X5_164 : Cond.fieldLink RX5 164 "ProcessTurns$Proc" "done" "I" ∈ T0 := mT (List.mem_append_right _ (List.mem_append_left _ (List.mem_of_getElem? (i := 59) (by decide +kernel)))) (by decide +kernel)
set_option maxRecDepth 20000 in
theorem wL_X5_25 : Cond.classLink RX5 25 RX0 ∈ T0 := mT (List.mem_append_right _ (List.mem_append_left _ (List.mem_of_getElem? (i := 81) (by decide +kernel)))) (by decide +kernel)
set_option maxRecDepth 20000 in
theorem wO_X0 : Cond.arrayOver (.object RX0) ∈ lw_tbl := List.mem_append_right _ (List.mem_append_left _ (List.mem_of_getElem? (i := 82) (by decide +kernel)))
set_option maxRecDepth 20000 in
theorem wn_X0 : Cond.instantiable RX0 4 ∈ T0 := mT (List.mem_append_right _ (List.mem_append_left _ (List.mem_of_getElem? (i := 83) (by decide +kernel)))) (by decide +kernel)
set_option maxRecDepth 20000 in
theorem wM_X5_31 : Cond.methodLink RX5 31 yX0_init ∈ T0 := mT (List.mem_append_right _ (List.mem_append_left _ (List.mem_of_getElem? (i := 84) (by decide +kernel)))) (by decide +kernel)
set_option maxRecDepth 20000 in
theorem wN_X0_init : Cond.instanceMethod yX0_init ∈ T0 := mT (List.mem_append_right _ (List.mem_append_left _ (List.mem_of_getElem? (i := 85) (by decide +kernel)))) (by decide +kernel)
set_option maxRecDepth 20000 in
theorem wC_X0_init : Cond.code yX0_init cX0_init 2 (none : Option FieldType) ∈ T0 := mT (List.mem_append_right _ (List.mem_append_left _ (List.mem_of_getElem? (i := 86) (by decide +kernel)))) (by decide +kernel)
set_option maxRecDepth 20000 in
theorem wM_X0_3 : Cond.methodLink RX0 3 objectInit ∈ T0 := mT (List.mem_append_right _ (List.mem_append_left _ (List.mem_of_getElem? (i := 87) (by decide +kernel)))) (by decide +kernel)
set_option maxRecDepth 20000 in
theorem wF_X0_9 : Cond.fieldLink RX0 9 "ProcessTurns$Channel" "number" "I" ∈ T0 := mT (List.mem_append_right _ (List.mem_append_left _ (List.mem_of_getElem? (i := 88) (by decide +kernel)))) (by decide +kernel)
set_option maxRecDepth 20000 in
theorem wF_X5_229 : Cond.fieldLink RX5 229 "ProcessTurns$Channel" "number" "I" ∈ T0 := mT (List.mem_append_right _ (List.mem_append_left _ (List.mem_of_getElem? (i := 89) (by decide +kernel)))) (by decide +kernel)
set_option maxRecDepth 20000 in
theorem wF_X0_15 : Cond.fieldLink RX0 15 "ProcessTurns$Channel" "waiter" "LProcessTurns$Proc;" ∈ T0 := mT (List.mem_append_right _ (List.mem_append_left _ (List.mem_of_getElem? (i := 90) (by decide +kernel)))) (by decide +kernel)
set_option maxRecDepth 20000 in
theorem wF_X5_222 : Cond.fieldLink RX5 222 "ProcessTurns$Channel" "waiter" "LProcessTurns$Proc;" ∈ T0 := mT (List.mem_append_right _ (List.mem_append_left _ (List.mem_of_getElem? (i := 91) (by decide +kernel)))) (by decide +kernel)
set_option maxRecDepth 20000 in
theorem wF_X0_19 : Cond.fieldLink RX0 19 "ProcessTurns$Channel" "waiterSends" "Z" ∈ T0 := mT (List.mem_append_right _ (List.mem_append_left _ (List.mem_of_getElem? (i := 92) (by decide +kernel)))) (by decide +kernel)
set_option maxRecDepth 20000 in
theorem wF_X0_23 : Cond.fieldLink RX0 23 "ProcessTurns$Channel" "message" "I" ∈ T0 := mT (List.mem_append_right _ (List.mem_append_left _ (List.mem_of_getElem? (i := 93) (by decide +kernel)))) (by decide +kernel)
set_option maxRecDepth 20000 in
theorem wF_X5_237 : Cond.fieldLink RX5 237 "ProcessTurns$Channel" "message" "I" ∈ T0 := mT (List.mem_append_right _ (List.mem_append_left _ (List.mem_of_getElem? (i := 94) (by decide +kernel)))) (by decide +kernel)
set_option maxRecDepth 20000 in
theorem wL_X5_32 : Cond.classLink RX5 32 RX4 ∈ T0 := mT (List.mem_append_right _ (List.mem_append_left _ (List.mem_of_getElem? (i := 104) (by decide +kernel)))) (by decide +kernel)
set_option maxRecDepth 20000 in
theorem wn_X4 : Cond.instantiable RX4 2 ∈ T0 := mT (List.mem_append_right _ (List.mem_append_left _ (List.mem_of_getElem? (i := 105) (by decide +kernel)))) (by decide +kernel)
set_option maxRecDepth 20000 in
theorem wM_X5_34 : Cond.methodLink RX5 34 yX4_init ∈ T0 := mT (List.mem_append_right _ (List.mem_append_left _ (List.mem_of_getElem? (i := 106) (by decide +kernel)))) (by decide +kernel)
set_option maxRecDepth 20000 in
theorem wN_X4_init : Cond.instanceMethod yX4_init ∈ T0 := mT (List.mem_append_right _ (List.mem_append_left _ (List.mem_of_getElem? (i := 107) (by decide +kernel)))) (by decide +kernel)
set_option maxRecDepth 20000 in
theorem wC_X4_init : Cond.code yX4_init cX4_init 1 (none : Option FieldType) ∈ T0 := mT (List.mem_append_right _ (List.mem_append_left _ (List.mem_of_getElem? (i := 108) (by decide +kernel)))) (by decide +kernel)
set_option maxRecDepth 20000 in
theorem wM_X4_3 : Cond.methodLink RX4 3 objectInit ∈ T0 := mT (List.mem_append_right _ (List.mem_append_left _ (List.mem_of_getElem? (i := 109) (by decide +kernel)))) (by decide +kernel)
set_option maxRecDepth 20000 in
theorem wL_X4_9 : Cond.classLink RX4 9 RX2 ∈ T0 := mT (List.mem_append_right _ (List.mem_append_left _ (List.mem_of_getElem? (i := 110) (by decide +kernel)))) (by decide +kernel)
set_option maxRecDepth 20000 in
theorem wF_X4_11 : Cond.fieldLink RX4 11 "ProcessTurns$Row" "members" "[LProcessTurns$Proc;" ∈ T0 := mT (List.mem_append_right _ (List.mem_append_left _ (List.mem_of_getElem? (i := 111) (by decide +kernel)))) (by decide +kernel)
set_option maxRecDepth 20000 in
theorem wF_X4_17 : Cond.fieldLink RX4 17 "ProcessTurns$Row" "size" "I" ∈ T0 := mT (List.mem_append_right _ (List.mem_append_left _ (List.mem_of_getElem? (i := 112) (by decide +kernel)))) (by decide +kernel)
set_option maxRecDepth 20000 in
theorem wF_X5_157 : Cond.fieldLink RX5 157 "ProcessTurns$Row" "size" "I" ∈ T0 := mT (List.mem_append_right _ (List.mem_append_left _ (List.mem_of_getElem? (i := 113) (by decide +kernel)))) (by decide +kernel)
set_option maxRecDepth 20000 in
theorem wL_X5_42 : Cond.classLink RX5 42 RX1 ∈ T0 := mT (List.mem_append_right _ (List.mem_append_left _ (List.mem_of_getElem? (i := 119) (by decide +kernel)))) (by decide +kernel)
set_option maxRecDepth 20000 in
theorem wn_X1 : Cond.instantiable RX1 2 ∈ T0 := mT (List.mem_append_right _ (List.mem_append_left _ (List.mem_of_getElem? (i := 120) (by decide +kernel)))) (by decide +kernel)
set_option maxRecDepth 20000 in
theorem wM_X5_44 : Cond.methodLink RX5 44 yX1_init ∈ T0 := mT (List.mem_append_right _ (List.mem_append_left _ (List.mem_of_getElem? (i := 121) (by decide +kernel)))) (by decide +kernel)
set_option maxRecDepth 20000 in
theorem wN_X1_init : Cond.instanceMethod yX1_init ∈ T0 := mT (List.mem_append_right _ (List.mem_append_left _ (List.mem_of_getElem? (i := 122) (by decide +kernel)))) (by decide +kernel)
set_option maxRecDepth 20000 in
theorem wC_X1_init : Cond.code yX1_init cX1_init 1 (none : Option FieldType) ∈ T0 := mT (List.mem_append_right _ (List.mem_append_left _ (List.mem_of_getElem? (i := 123) (by decide +kernel)))) (by decide +kernel)
set_option maxRecDepth 20000 in
theorem wM_X1_3 : Cond.methodLink RX1 3 objectInit ∈ T0 := mT (List.mem_append_right _ (List.mem_append_left _ (List.mem_of_getElem? (i := 124) (by decide +kernel)))) (by decide +kernel)
set_option maxRecDepth 20000 in
theorem wF_X1_9 : Cond.fieldLink RX1 9 "ProcessTurns$Log" "parts" "[I" ∈ T0 := mT (List.mem_append_right _ (List.mem_append_left _ (List.mem_of_getElem? (i := 125) (by decide +kernel)))) (by decide +kernel)
set_option maxRecDepth 20000 in
theorem wF_X1_15 : Cond.fieldLink RX1 15 "ProcessTurns$Log" "count" "I" ∈ T0 := mT (List.mem_append_right _ (List.mem_append_left _ (List.mem_of_getElem? (i := 126) (by decide +kernel)))) (by decide +kernel)
set_option maxRecDepth 20000 in
theorem wF_X5_115 : Cond.fieldLink RX5 115 "ProcessTurns$Log" "count" "I" ∈ T0 := mT (List.mem_append_right _ (List.mem_append_left _ (List.mem_of_getElem? (i := 127) (by decide +kernel)))) (by decide +kernel)
set_option maxRecDepth 20000 in
theorem wF_X5_10 : Cond.fieldLink RX5 10 "ProcessTurns" "program" "LProcessTurns$Program;" ∈ T0 := mT (List.mem_append_right _ (List.mem_append_left _ (List.mem_of_getElem? (i := 133) (by decide +kernel)))) (by decide +kernel)
set_option maxRecDepth 20000 in
theorem wF_X5_18 : Cond.fieldLink RX5 18 "ProcessTurns" "processes" "[LProcessTurns$Proc;" ∈ T0 := mT (List.mem_append_right _ (List.mem_append_left _ (List.mem_of_getElem? (i := 134) (by decide +kernel)))) (by decide +kernel)
set_option maxRecDepth 20000 in
theorem wF_X5_27 : Cond.fieldLink RX5 27 "ProcessTurns" "channels" "[LProcessTurns$Channel;" ∈ T0 := mT (List.mem_append_right _ (List.mem_append_left _ (List.mem_of_getElem? (i := 135) (by decide +kernel)))) (by decide +kernel)
set_option maxRecDepth 20000 in
theorem wF_X5_35 : Cond.fieldLink RX5 35 "ProcessTurns" "highRow" "LProcessTurns$Row;" ∈ T0 := mT (List.mem_append_right _ (List.mem_append_left _ (List.mem_of_getElem? (i := 136) (by decide +kernel)))) (by decide +kernel)
set_option maxRecDepth 20000 in
theorem wF_X5_39 : Cond.fieldLink RX5 39 "ProcessTurns" "lowRow" "LProcessTurns$Row;" ∈ T0 := mT (List.mem_append_right _ (List.mem_append_left _ (List.mem_of_getElem? (i := 137) (by decide +kernel)))) (by decide +kernel)
set_option maxRecDepth 20000 in
theorem wF_X5_45 : Cond.fieldLink RX5 45 "ProcessTurns" "log" "LProcessTurns$Log;" ∈ T0 := mT (List.mem_append_right _ (List.mem_append_left _ (List.mem_of_getElem? (i := 138) (by decide +kernel)))) (by decide +kernel)
set_option maxRecDepth 20000 in
theorem wF_X5_49 : Cond.fieldLink RX5 49 "ProcessTurns" "active" "LProcessTurns$Proc;" ∈ T0 := mT (List.mem_append_right _ (List.mem_append_left _ (List.mem_of_getElem? (i := 139) (by decide +kernel)))) (by decide +kernel)
set_option maxRecDepth 20000 in
theorem wF_X5_53 : Cond.fieldLink RX5 53 "ProcessTurns" "time" "I" ∈ T0 := mT (List.mem_append_right _ (List.mem_append_left _ (List.mem_of_getElem? (i := 140) (by decide +kernel)))) (by decide +kernel)
set_option maxRecDepth 20000 in
theorem wM_L_13 : Cond.methodLink RL 13 yX5_add ∈ T0 := mT (List.mem_append_right _ (List.mem_append_left _ (List.mem_of_getElem? (i := 158) (by decide +kernel)))) (by decide +kernel)
set_option maxRecDepth 20000 in
theorem wN_X5_add : Cond.instanceMethod yX5_add ∈ T0 := mT (List.mem_append_right _ (List.mem_append_left _ (List.mem_of_getElem? (i := 159) (by decide +kernel)))) (by decide +kernel)
set_option maxRecDepth 20000 in
theorem wS_X5_add : Cond.selects RX5 yX5_add yX5_add ∈ T0 := mT (List.mem_append_right _ (List.mem_append_left _ (List.mem_of_getElem? (i := 160) (by decide +kernel)))) (by decide +kernel)
set_option maxRecDepth 20000 in
theorem wC_X5_add : Cond.code yX5_add cX5_add 3 (some FieldType.int) ∈ T0 := mT (List.mem_append_right _ (List.mem_append_left _ (List.mem_of_getElem? (i := 161) (by decide +kernel)))) (by decide +kernel)
set_option maxRecDepth 20000 in
theorem wM_X5_57 : Cond.methodLink RX5 57 yX5_isOperand ∈ T0 := mT (List.mem_append_right _ (List.mem_append_left _ (List.mem_of_getElem? (i := 162) (by decide +kernel)))) (by decide +kernel)
set_option maxRecDepth 20000 in
theorem wT_X5_isOperand : Cond.static yX5_isOperand ∈ T0 := mT (List.mem_append_right _ (List.mem_append_left _ (List.mem_of_getElem? (i := 163) (by decide +kernel)))) (by decide +kernel)
set_option maxRecDepth 20000 in
theorem wC_X5_isOperand : Cond.code yX5_isOperand cX5_isOperand 2 (some FieldType.boolean) ∈ T0 := mT (List.mem_append_right _ (List.mem_append_left _ (List.mem_of_getElem? (i := 164) (by decide +kernel)))) (by decide +kernel)
set_option maxRecDepth 20000 in
theorem wM_X5_64 : Cond.methodLink RX5 64 yX3_append ∈ T0 := mT (List.mem_append_right _ (List.mem_append_left _ (List.mem_of_getElem? (i := 165) (by decide +kernel)))) (by decide +kernel)
set_option maxRecDepth 20000 in
theorem wN_X3_append : Cond.instanceMethod yX3_append ∈ T0 := mT (List.mem_append_right _ (List.mem_append_left _ (List.mem_of_getElem? (i := 166) (by decide +kernel)))) (by decide +kernel)
set_option maxRecDepth 20000 in
theorem wS_X3_append : Cond.selects RX3 yX3_append yX3_append ∈ T0 := mT (List.mem_append_right _ (List.mem_append_left _ (List.mem_of_getElem? (i := 167) (by decide +kernel)))) (by decide +kernel)
set_option maxRecDepth 20000 in
theorem wC_X3_append : Cond.code yX3_append cX3_append 4 (some FieldType.int) ∈ T0 := mT (List.mem_append_right _ (List.mem_append_left _ (List.mem_of_getElem? (i := 168) (by decide +kernel)))) (by decide +kernel)
set_option maxRecDepth 20000 in
theorem wM_L_18 : Cond.methodLink RL 18 yX5_start ∈ T0 := mT (List.mem_append_right _ (List.mem_append_left _ (List.mem_of_getElem? (i := 169) (by decide +kernel)))) (by decide +kernel)
set_option maxRecDepth 20000 in
theorem wN_X5_start : Cond.instanceMethod yX5_start ∈ T0 := mT (List.mem_append_right _ (List.mem_append_left _ (List.mem_of_getElem? (i := 170) (by decide +kernel)))) (by decide +kernel)
set_option maxRecDepth 20000 in
theorem wS_X5_start : Cond.selects RX5 yX5_start yX5_start ∈ T0 := mT (List.mem_append_right _ (List.mem_append_left _ (List.mem_of_getElem? (i := 171) (by decide +kernel)))) (by decide +kernel)
set_option maxRecDepth 20000 in
theorem wC_X5_start : Cond.code yX5_start cX5_start 5 (some FieldType.int) ∈ T0 := mT (List.mem_append_right _ (List.mem_append_left _ (List.mem_of_getElem? (i := 172) (by decide +kernel)))) (by decide +kernel)
set_option maxRecDepth 20000 in
theorem wM_X5_68 : Cond.methodLink RX5 68 yX5_isPriority ∈ T0 := mT (List.mem_append_right _ (List.mem_append_left _ (List.mem_of_getElem? (i := 173) (by decide +kernel)))) (by decide +kernel)
set_option maxRecDepth 20000 in
theorem wT_X5_isPriority : Cond.static yX5_isPriority ∈ T0 := mT (List.mem_append_right _ (List.mem_append_left _ (List.mem_of_getElem? (i := 174) (by decide +kernel)))) (by decide +kernel)
set_option maxRecDepth 20000 in
theorem wC_X5_isPriority : Cond.code yX5_isPriority cX5_isPriority 1 (some FieldType.boolean) ∈ T0 := mT (List.mem_append_right _ (List.mem_append_left _ (List.mem_of_getElem? (i := 175) (by decide +kernel)))) (by decide +kernel)
set_option maxRecDepth 20000 in
theorem wM_X5_72 : Cond.methodLink RX5 72 yX5_startLeastFree ∈ T0 := mT (List.mem_append_right _ (List.mem_append_left _ (List.mem_of_getElem? (i := 176) (by decide +kernel)))) (by decide +kernel)
set_option maxRecDepth 20000 in
theorem wN_X5_startLeastFree : Cond.instanceMethod yX5_startLeastFree ∈ T0 := mT (List.mem_append_right _ (List.mem_append_left _ (List.mem_of_getElem? (i := 178) (by decide +kernel)))) (by decide +kernel)
set_option maxRecDepth 20000 in
theorem wC_X5_startLeastFree : Cond.code yX5_startLeastFree cX5_startLeastFree 5 (some FieldType.int) ∈ T0 := mT (List.mem_append_right _ (List.mem_append_left _ (List.mem_of_getElem? (i := 179) (by decide +kernel)))) (by decide +kernel)
set_option maxRecDepth 20000 in
theorem wM_X5_121 : Cond.methodLink RX5 121 yX5_leastFree ∈ T0 := mT (List.mem_append_right _ (List.mem_append_left _ (List.mem_of_getElem? (i := 180) (by decide +kernel)))) (by decide +kernel)
set_option maxRecDepth 20000 in
theorem wN_X5_leastFree : Cond.instanceMethod yX5_leastFree ∈ T0 := mT (List.mem_append_right _ (List.mem_append_left _ (List.mem_of_getElem? (i := 182) (by decide +kernel)))) (by decide +kernel)
set_option maxRecDepth 20000 in
theorem wC_X5_leastFree : Cond.code yX5_leastFree cX5_leastFree 2 (some (FieldType.object "ProcessTurns$Proc")) ∈ T0 := mT (List.mem_append_right _ (List.mem_append_left _ (List.mem_of_getElem? (i := 183) (by decide +kernel)))) (by decide +kernel)
set_option maxRecDepth 20000 in
theorem wM_X5_125 : Cond.methodLink RX5 125 yX2_begin ∈ T0 := mT (List.mem_append_right _ (List.mem_append_left _ (List.mem_of_getElem? (i := 184) (by decide +kernel)))) (by decide +kernel)
set_option maxRecDepth 20000 in
theorem wN_X2_begin : Cond.instanceMethod yX2_begin ∈ T0 := mT (List.mem_append_right _ (List.mem_append_left _ (List.mem_of_getElem? (i := 185) (by decide +kernel)))) (by decide +kernel)
set_option maxRecDepth 20000 in
theorem wS_X2_begin : Cond.selects RX2 yX2_begin yX2_begin ∈ T0 := mT (List.mem_append_right _ (List.mem_append_left _ (List.mem_of_getElem? (i := 186) (by decide +kernel)))) (by decide +kernel)
set_option maxRecDepth 20000 in
theorem wC_X2_begin : Cond.code yX2_begin cX2_begin 5 (none : Option FieldType) ∈ T0 := mT (List.mem_append_right _ (List.mem_append_left _ (List.mem_of_getElem? (i := 187) (by decide +kernel)))) (by decide +kernel)
set_option maxRecDepth 20000 in
theorem wM_X5_129 : Cond.methodLink RX5 129 yX5_becomeReady ∈ T0 := mT (List.mem_append_right _ (List.mem_append_left _ (List.mem_of_getElem? (i := 188) (by decide +kernel)))) (by decide +kernel)
set_option maxRecDepth 20000 in
theorem wN_X5_becomeReady : Cond.instanceMethod yX5_becomeReady ∈ T0 := mT (List.mem_append_right _ (List.mem_append_left _ (List.mem_of_getElem? (i := 190) (by decide +kernel)))) (by decide +kernel)
set_option maxRecDepth 20000 in
theorem wC_X5_becomeReady : Cond.code yX5_becomeReady cX5_becomeReady 2 (none : Option FieldType) ∈ T0 := mT (List.mem_append_right _ (List.mem_append_left _ (List.mem_of_getElem? (i := 191) (by decide +kernel)))) (by decide +kernel)
set_option maxRecDepth 20000 in
theorem wM_X5_99 : Cond.methodLink RX5 99 yX5_rowOf ∈ T0 := mT (List.mem_append_right _ (List.mem_append_left _ (List.mem_of_getElem? (i := 192) (by decide +kernel)))) (by decide +kernel)
set_option maxRecDepth 20000 in
theorem wN_X5_rowOf : Cond.instanceMethod yX5_rowOf ∈ T0 := mT (List.mem_append_right _ (List.mem_append_left _ (List.mem_of_getElem? (i := 194) (by decide +kernel)))) (by decide +kernel)
set_option maxRecDepth 20000 in
theorem wC_X5_rowOf : Cond.code yX5_rowOf cX5_rowOf 2 (some (FieldType.object "ProcessTurns$Row")) ∈ T0 := mT (List.mem_append_right _ (List.mem_append_left _ (List.mem_of_getElem? (i := 195) (by decide +kernel)))) (by decide +kernel)
set_option maxRecDepth 20000 in
theorem wM_X5_136 : Cond.methodLink RX5 136 yX4_putLast ∈ T0 := mT (List.mem_append_right _ (List.mem_append_left _ (List.mem_of_getElem? (i := 196) (by decide +kernel)))) (by decide +kernel)
set_option maxRecDepth 20000 in
theorem wN_X4_putLast : Cond.instanceMethod yX4_putLast ∈ T0 := mT (List.mem_append_right _ (List.mem_append_left _ (List.mem_of_getElem? (i := 197) (by decide +kernel)))) (by decide +kernel)
set_option maxRecDepth 20000 in
theorem wS_X4_putLast : Cond.selects RX4 yX4_putLast yX4_putLast ∈ T0 := mT (List.mem_append_right _ (List.mem_append_left _ (List.mem_of_getElem? (i := 198) (by decide +kernel)))) (by decide +kernel)
set_option maxRecDepth 20000 in
theorem wC_X4_putLast : Cond.code yX4_putLast cX4_putLast 2 (none : Option FieldType) ∈ T0 := mT (List.mem_append_right _ (List.mem_append_left _ (List.mem_of_getElem? (i := 199) (by decide +kernel)))) (by decide +kernel)
set_option maxRecDepth 20000 in
theorem wM_L_23 : Cond.methodLink RL 23 yX5_run ∈ T0 := mT (List.mem_append_right _ (List.mem_append_left _ (List.mem_of_getElem? (i := 200) (by decide +kernel)))) (by decide +kernel)
set_option maxRecDepth 20000 in
theorem wN_X5_run : Cond.instanceMethod yX5_run ∈ T0 := mT (List.mem_append_right _ (List.mem_append_left _ (List.mem_of_getElem? (i := 201) (by decide +kernel)))) (by decide +kernel)
set_option maxRecDepth 20000 in
theorem wS_X5_run : Cond.selects RX5 yX5_run yX5_run ∈ T0 := mT (List.mem_append_right _ (List.mem_append_left _ (List.mem_of_getElem? (i := 202) (by decide +kernel)))) (by decide +kernel)
set_option maxRecDepth 20000 in
theorem wC_X5_run : Cond.code yX5_run cX5_run 4 (some FieldType.int) ∈ T0 := mT (List.mem_append_right _ (List.mem_append_left _ (List.mem_of_getElem? (i := 203) (by decide +kernel)))) (by decide +kernel)
set_option maxRecDepth 20000 in
theorem wM_X5_76 : Cond.methodLink RX5 76 yX5_step ∈ T0 := mT (List.mem_append_right _ (List.mem_append_left _ (List.mem_of_getElem? (i := 204) (by decide +kernel)))) (by decide +kernel)
set_option maxRecDepth 20000 in
theorem wN_X5_step : Cond.instanceMethod yX5_step ∈ T0 := mT (List.mem_append_right _ (List.mem_append_left _ (List.mem_of_getElem? (i := 206) (by decide +kernel)))) (by decide +kernel)
set_option maxRecDepth 20000 in
theorem wC_X5_step : Cond.code yX5_step cX5_step 2 (some FieldType.boolean) ∈ T0 := mT (List.mem_append_right _ (List.mem_append_left _ (List.mem_of_getElem? (i := 207) (by decide +kernel)))) (by decide +kernel)
set_option maxRecDepth 20000 in
theorem wM_X5_139 : Cond.methodLink RX5 139 yX5_wakeThoseWhoseTimeHasCome ∈ T0 := mT (List.mem_append_right _ (List.mem_append_left _ (List.mem_of_getElem? (i := 208) (by decide +kernel)))) (by decide +kernel)
set_option maxRecDepth 20000 in
theorem wN_X5_wakeThoseWhoseTimeHasCome : Cond.instanceMethod yX5_wakeThoseWhoseTimeHasCome ∈ T0 := mT (List.mem_append_right _ (List.mem_append_left _ (List.mem_of_getElem? (i := 210) (by decide +kernel)))) (by decide +kernel)
set_option maxRecDepth 20000 in
theorem wC_X5_wakeThoseWhoseTimeHasCome : Cond.code yX5_wakeThoseWhoseTimeHasCome cX5_wakeThoseWhoseTimeHasCome 2 (none : Option FieldType) ∈ T0 := mT (List.mem_append_right _ (List.mem_append_left _ (List.mem_of_getElem? (i := 211) (by decide +kernel)))) (by decide +kernel)
set_option maxRecDepth 20000 in
theorem wM_X5_154 : Cond.methodLink RX5 154 yX5_hasCome ∈ T0 := mT (List.mem_append_right _ (List.mem_append_left _ (List.mem_of_getElem? (i := 212) (by decide +kernel)))) (by decide +kernel)
set_option maxRecDepth 20000 in
theorem wN_X5_hasCome : Cond.instanceMethod yX5_hasCome ∈ T0 := mT (List.mem_append_right _ (List.mem_append_left _ (List.mem_of_getElem? (i := 214) (by decide +kernel)))) (by decide +kernel)
set_option maxRecDepth 20000 in
theorem wC_X5_hasCome : Cond.code yX5_hasCome cX5_hasCome 2 (some FieldType.boolean) ∈ T0 := mT (List.mem_append_right _ (List.mem_append_left _ (List.mem_of_getElem? (i := 215) (by decide +kernel)))) (by decide +kernel)
set_option maxRecDepth 20000 in
theorem wM_X5_142 : Cond.methodLink RX5 142 yX5_giveWayToHigh ∈ T0 := mT (List.mem_append_right _ (List.mem_append_left _ (List.mem_of_getElem? (i := 216) (by decide +kernel)))) (by decide +kernel)
set_option maxRecDepth 20000 in
theorem wN_X5_giveWayToHigh : Cond.instanceMethod yX5_giveWayToHigh ∈ T0 := mT (List.mem_append_right _ (List.mem_append_left _ (List.mem_of_getElem? (i := 218) (by decide +kernel)))) (by decide +kernel)
set_option maxRecDepth 20000 in
theorem wC_X5_giveWayToHigh : Cond.code yX5_giveWayToHigh cX5_giveWayToHigh 1 (none : Option FieldType) ∈ T0 := mT (List.mem_append_right _ (List.mem_append_left _ (List.mem_of_getElem? (i := 219) (by decide +kernel)))) (by decide +kernel)
set_option maxRecDepth 20000 in
theorem wM_X5_158 : Cond.methodLink RX5 158 yX4_putFirst ∈ T0 := mT (List.mem_append_right _ (List.mem_append_left _ (List.mem_of_getElem? (i := 220) (by decide +kernel)))) (by decide +kernel)
set_option maxRecDepth 20000 in
theorem wN_X4_putFirst : Cond.instanceMethod yX4_putFirst ∈ T0 := mT (List.mem_append_right _ (List.mem_append_left _ (List.mem_of_getElem? (i := 221) (by decide +kernel)))) (by decide +kernel)
set_option maxRecDepth 20000 in
theorem wS_X4_putFirst : Cond.selects RX4 yX4_putFirst yX4_putFirst ∈ T0 := mT (List.mem_append_right _ (List.mem_append_left _ (List.mem_of_getElem? (i := 222) (by decide +kernel)))) (by decide +kernel)
set_option maxRecDepth 20000 in
theorem wC_X4_putFirst : Cond.code yX4_putFirst cX4_putFirst 3 (none : Option FieldType) ∈ T0 := mT (List.mem_append_right _ (List.mem_append_left _ (List.mem_of_getElem? (i := 223) (by decide +kernel)))) (by decide +kernel)
set_option maxRecDepth 20000 in
theorem wM_X5_145 : Cond.methodLink RX5 145 yX5_takeNext ∈ T0 := mT (List.mem_append_right _ (List.mem_append_left _ (List.mem_of_getElem? (i := 224) (by decide +kernel)))) (by decide +kernel)
set_option maxRecDepth 20000 in
theorem wN_X5_takeNext : Cond.instanceMethod yX5_takeNext ∈ T0 := mT (List.mem_append_right _ (List.mem_append_left _ (List.mem_of_getElem? (i := 226) (by decide +kernel)))) (by decide +kernel)
set_option maxRecDepth 20000 in
theorem wC_X5_takeNext : Cond.code yX5_takeNext cX5_takeNext 1 (none : Option FieldType) ∈ T0 := mT (List.mem_append_right _ (List.mem_append_left _ (List.mem_of_getElem? (i := 227) (by decide +kernel)))) (by decide +kernel)
set_option maxRecDepth 20000 in
theorem wM_X5_161 : Cond.methodLink RX5 161 yX4_takeFirst ∈ T0 := mT (List.mem_append_right _ (List.mem_append_left _ (List.mem_of_getElem? (i := 228) (by decide +kernel)))) (by decide +kernel)
set_option maxRecDepth 20000 in
theorem wN_X4_takeFirst : Cond.instanceMethod yX4_takeFirst ∈ T0 := mT (List.mem_append_right _ (List.mem_append_left _ (List.mem_of_getElem? (i := 229) (by decide +kernel)))) (by decide +kernel)
set_option maxRecDepth 20000 in
theorem wS_X4_takeFirst : Cond.selects RX4 yX4_takeFirst yX4_takeFirst ∈ T0 := mT (List.mem_append_right _ (List.mem_append_left _ (List.mem_of_getElem? (i := 230) (by decide +kernel)))) (by decide +kernel)
set_option maxRecDepth 20000 in
theorem wC_X4_takeFirst : Cond.code yX4_takeFirst cX4_takeFirst 3 (some (FieldType.object "ProcessTurns$Proc")) ∈ T0 := mT (List.mem_append_right _ (List.mem_append_left _ (List.mem_of_getElem? (i := 231) (by decide +kernel)))) (by decide +kernel)
set_option maxRecDepth 20000 in
theorem wM_X5_148 : Cond.methodLink RX5 148 yX5_execute ∈ T0 := mT (List.mem_append_right _ (List.mem_append_left _ (List.mem_of_getElem? (i := 232) (by decide +kernel)))) (by decide +kernel)
set_option maxRecDepth 20000 in
theorem wN_X5_execute : Cond.instanceMethod yX5_execute ∈ T0 := mT (List.mem_append_right _ (List.mem_append_left _ (List.mem_of_getElem? (i := 234) (by decide +kernel)))) (by decide +kernel)
set_option maxRecDepth 20000 in
theorem wC_X5_execute : Cond.code yX5_execute cX5_execute 4 (none : Option FieldType) ∈ T0 := mT (List.mem_append_right _ (List.mem_append_left _ (List.mem_of_getElem? (i := 235) (by decide +kernel)))) (by decide +kernel)
set_option maxRecDepth 20000 in
theorem wM_X5_170 : Cond.methodLink RX5 170 yX3_opAt ∈ T0 := mT (List.mem_append_right _ (List.mem_append_left _ (List.mem_of_getElem? (i := 236) (by decide +kernel)))) (by decide +kernel)
set_option maxRecDepth 20000 in
theorem wN_X3_opAt : Cond.instanceMethod yX3_opAt ∈ T0 := mT (List.mem_append_right _ (List.mem_append_left _ (List.mem_of_getElem? (i := 237) (by decide +kernel)))) (by decide +kernel)
set_option maxRecDepth 20000 in
theorem wS_X3_opAt : Cond.selects RX3 yX3_opAt yX3_opAt ∈ T0 := mT (List.mem_append_right _ (List.mem_append_left _ (List.mem_of_getElem? (i := 238) (by decide +kernel)))) (by decide +kernel)
set_option maxRecDepth 20000 in
theorem wC_X3_opAt : Cond.code yX3_opAt cX3_opAt 2 (some FieldType.int) ∈ T0 := mT (List.mem_append_right _ (List.mem_append_left _ (List.mem_of_getElem? (i := 239) (by decide +kernel)))) (by decide +kernel)
set_option maxRecDepth 20000 in
theorem wM_X3_22 : Cond.methodLink RX3 22 yX3_holds ∈ T0 := mT (List.mem_append_right _ (List.mem_append_right _ (List.mem_append_left _ (List.mem_of_getElem? (i := 0) (by decide +kernel))))) (by decide +kernel)
set_option maxRecDepth 20000 in
theorem wN_X3_holds : Cond.instanceMethod yX3_holds ∈ T0 := mT (List.mem_append_right _ (List.mem_append_right _ (List.mem_append_left _ (List.mem_of_getElem? (i := 1) (by decide +kernel))))) (by decide +kernel)
set_option maxRecDepth 20000 in
theorem wS_X3_holds : Cond.selects RX3 yX3_holds yX3_holds ∈ T0 := mT (List.mem_append_right _ (List.mem_append_right _ (List.mem_append_left _ (List.mem_of_getElem? (i := 2) (by decide +kernel))))) (by decide +kernel)
set_option maxRecDepth 20000 in
theorem wC_X3_holds : Cond.code yX3_holds cX3_holds 2 (some FieldType.boolean) ∈ T0 := mT (List.mem_append_right _ (List.mem_append_right _ (List.mem_append_left _ (List.mem_of_getElem? (i := 3) (by decide +kernel))))) (by decide +kernel)
set_option maxRecDepth 20000 in
theorem wM_X5_173 : Cond.methodLink RX5 173 yX3_operandAt ∈ T0 := mT (List.mem_append_right _ (List.mem_append_right _ (List.mem_append_left _ (List.mem_of_getElem? (i := 4) (by decide +kernel))))) (by decide +kernel)
set_option maxRecDepth 20000 in
theorem wN_X3_operandAt : Cond.instanceMethod yX3_operandAt ∈ T0 := mT (List.mem_append_right _ (List.mem_append_right _ (List.mem_append_left _ (List.mem_of_getElem? (i := 5) (by decide +kernel))))) (by decide +kernel)
set_option maxRecDepth 20000 in
theorem wS_X3_operandAt : Cond.selects RX3 yX3_operandAt yX3_operandAt ∈ T0 := mT (List.mem_append_right _ (List.mem_append_right _ (List.mem_append_left _ (List.mem_of_getElem? (i := 6) (by decide +kernel))))) (by decide +kernel)
set_option maxRecDepth 20000 in
theorem wC_X3_operandAt : Cond.code yX3_operandAt cX3_operandAt 2 (some FieldType.int) ∈ T0 := mT (List.mem_append_right _ (List.mem_append_right _ (List.mem_append_left _ (List.mem_of_getElem? (i := 7) (by decide +kernel))))) (by decide +kernel)
set_option maxRecDepth 20000 in
theorem wM_X5_176 : Cond.methodLink RX5 176 yX5_jump ∈ T0 := mT (List.mem_append_right _ (List.mem_append_right _ (List.mem_append_left _ (List.mem_of_getElem? (i := 8) (by decide +kernel))))) (by decide +kernel)
set_option maxRecDepth 20000 in
theorem wN_X5_jump : Cond.instanceMethod yX5_jump ∈ T0 := mT (List.mem_append_right _ (List.mem_append_right _ (List.mem_append_left _ (List.mem_of_getElem? (i := 10) (by decide +kernel))))) (by decide +kernel)
set_option maxRecDepth 20000 in
theorem wC_X5_jump : Cond.code yX5_jump cX5_jump 3 (none : Option FieldType) ∈ T0 := mT (List.mem_append_right _ (List.mem_append_right _ (List.mem_append_left _ (List.mem_of_getElem? (i := 11) (by decide +kernel))))) (by decide +kernel)
set_option maxRecDepth 20000 in
theorem wM_X5_180 : Cond.methodLink RX5 180 yX5_jumpIfZero ∈ T0 := mT (List.mem_append_right _ (List.mem_append_right _ (List.mem_append_left _ (List.mem_of_getElem? (i := 12) (by decide +kernel))))) (by decide +kernel)
set_option maxRecDepth 20000 in
theorem wN_X5_jumpIfZero : Cond.instanceMethod yX5_jumpIfZero ∈ T0 := mT (List.mem_append_right _ (List.mem_append_right _ (List.mem_append_left _ (List.mem_of_getElem? (i := 14) (by decide +kernel))))) (by decide +kernel)
set_option maxRecDepth 20000 in
theorem wC_X5_jumpIfZero : Cond.code yX5_jumpIfZero cX5_jumpIfZero 3 (none : Option FieldType) ∈ T0 := mT (List.mem_append_right _ (List.mem_append_right _ (List.mem_append_left _ (List.mem_of_getElem? (i := 15) (by decide +kernel))))) (by decide +kernel)
set_option maxRecDepth 20000 in
theorem wM_X5_210 : Cond.methodLink RX5 210 yX2_drop ∈ T0 := mT (List.mem_append_right _ (List.mem_append_right _ (List.mem_append_left _ (List.mem_of_getElem? (i := 16) (by decide +kernel))))) (by decide +kernel)
set_option maxRecDepth 20000 in
theorem wN_X2_drop : Cond.instanceMethod yX2_drop ∈ T0 := mT (List.mem_append_right _ (List.mem_append_right _ (List.mem_append_left _ (List.mem_of_getElem? (i := 17) (by decide +kernel))))) (by decide +kernel)
set_option maxRecDepth 20000 in
theorem wS_X2_drop : Cond.selects RX2 yX2_drop yX2_drop ∈ T0 := mT (List.mem_append_right _ (List.mem_append_right _ (List.mem_append_left _ (List.mem_of_getElem? (i := 18) (by decide +kernel))))) (by decide +kernel)
set_option maxRecDepth 20000 in
theorem wC_X2_drop : Cond.code yX2_drop cX2_drop 1 (none : Option FieldType) ∈ T0 := mT (List.mem_append_right _ (List.mem_append_right _ (List.mem_append_left _ (List.mem_of_getElem? (i := 19) (by decide +kernel))))) (by decide +kernel)
set_option maxRecDepth 20000 in
theorem wM_X5_107 : Cond.methodLink RX5 107 yX5_channelAt ∈ T0 := mT (List.mem_append_right _ (List.mem_append_right _ (List.mem_append_left _ (List.mem_of_getElem? (i := 20) (by decide +kernel))))) (by decide +kernel)
set_option maxRecDepth 20000 in
theorem wN_X5_channelAt : Cond.instanceMethod yX5_channelAt ∈ T0 := mT (List.mem_append_right _ (List.mem_append_right _ (List.mem_append_left _ (List.mem_of_getElem? (i := 22) (by decide +kernel))))) (by decide +kernel)
set_option maxRecDepth 20000 in
theorem wC_X5_channelAt : Cond.code yX5_channelAt cX5_channelAt 2 (some (FieldType.object "ProcessTurns$Channel")) ∈ T0 := mT (List.mem_append_right _ (List.mem_append_right _ (List.mem_append_left _ (List.mem_of_getElem? (i := 23) (by decide +kernel))))) (by decide +kernel)
set_option maxRecDepth 20000 in
theorem wM_X5_183 : Cond.methodLink RX5 183 yX5_send ∈ T0 := mT (List.mem_append_right _ (List.mem_append_right _ (List.mem_append_left _ (List.mem_of_getElem? (i := 24) (by decide +kernel))))) (by decide +kernel)
set_option maxRecDepth 20000 in
theorem wN_X5_send : Cond.instanceMethod yX5_send ∈ T0 := mT (List.mem_append_right _ (List.mem_append_right _ (List.mem_append_left _ (List.mem_of_getElem? (i := 26) (by decide +kernel))))) (by decide +kernel)
set_option maxRecDepth 20000 in
theorem wC_X5_send : Cond.code yX5_send cX5_send 5 (none : Option FieldType) ∈ T0 := mT (List.mem_append_right _ (List.mem_append_right _ (List.mem_append_left _ (List.mem_of_getElem? (i := 27) (by decide +kernel))))) (by decide +kernel)
set_option maxRecDepth 20000 in
theorem wM_X5_219 : Cond.methodLink RX5 219 yX0_hasSender ∈ T0 := mT (List.mem_append_right _ (List.mem_append_right _ (List.mem_append_left _ (List.mem_of_getElem? (i := 28) (by decide +kernel))))) (by decide +kernel)
set_option maxRecDepth 20000 in
theorem wN_X0_hasSender : Cond.instanceMethod yX0_hasSender ∈ T0 := mT (List.mem_append_right _ (List.mem_append_right _ (List.mem_append_left _ (List.mem_of_getElem? (i := 29) (by decide +kernel))))) (by decide +kernel)
set_option maxRecDepth 20000 in
theorem wS_X0_hasSender : Cond.selects RX0 yX0_hasSender yX0_hasSender ∈ T0 := mT (List.mem_append_right _ (List.mem_append_right _ (List.mem_append_left _ (List.mem_of_getElem? (i := 30) (by decide +kernel))))) (by decide +kernel)
set_option maxRecDepth 20000 in
theorem wC_X0_hasSender : Cond.code yX0_hasSender cX0_hasSender 1 (some FieldType.boolean) ∈ T0 := mT (List.mem_append_right _ (List.mem_append_right _ (List.mem_append_left _ (List.mem_of_getElem? (i := 31) (by decide +kernel))))) (by decide +kernel)
set_option maxRecDepth 20000 in
theorem wM_X5_225 : Cond.methodLink RX5 225 yX0_hold ∈ T0 := mT (List.mem_append_right _ (List.mem_append_right _ (List.mem_append_left _ (List.mem_of_getElem? (i := 32) (by decide +kernel))))) (by decide +kernel)
set_option maxRecDepth 20000 in
theorem wN_X0_hold : Cond.instanceMethod yX0_hold ∈ T0 := mT (List.mem_append_right _ (List.mem_append_right _ (List.mem_append_left _ (List.mem_of_getElem? (i := 33) (by decide +kernel))))) (by decide +kernel)
set_option maxRecDepth 20000 in
theorem wS_X0_hold : Cond.selects RX0 yX0_hold yX0_hold ∈ T0 := mT (List.mem_append_right _ (List.mem_append_right _ (List.mem_append_left _ (List.mem_of_getElem? (i := 34) (by decide +kernel))))) (by decide +kernel)
set_option maxRecDepth 20000 in
theorem wC_X0_hold : Cond.code yX0_hold cX0_hold 4 (none : Option FieldType) ∈ T0 := mT (List.mem_append_right _ (List.mem_append_right _ (List.mem_append_left _ (List.mem_of_getElem? (i := 35) (by decide +kernel))))) (by decide +kernel)
set_option maxRecDepth 20000 in
theorem wM_X5_83 : Cond.methodLink RX5 83 yX0_clear ∈ T0 := mT (List.mem_append_right _ (List.mem_append_right _ (List.mem_append_left _ (List.mem_of_getElem? (i := 36) (by decide +kernel))))) (by decide +kernel)
set_option maxRecDepth 20000 in
theorem wN_X0_clear : Cond.instanceMethod yX0_clear ∈ T0 := mT (List.mem_append_right _ (List.mem_append_right _ (List.mem_append_left _ (List.mem_of_getElem? (i := 37) (by decide +kernel))))) (by decide +kernel)
set_option maxRecDepth 20000 in
theorem wS_X0_clear : Cond.selects RX0 yX0_clear yX0_clear ∈ T0 := mT (List.mem_append_right _ (List.mem_append_right _ (List.mem_append_left _ (List.mem_of_getElem? (i := 38) (by decide +kernel))))) (by decide +kernel)
set_option maxRecDepth 20000 in
theorem wC_X0_clear : Cond.code yX0_clear cX0_clear 1 (none : Option FieldType) ∈ T0 := mT (List.mem_append_right _ (List.mem_append_right _ (List.mem_append_left _ (List.mem_of_getElem? (i := 39) (by decide +kernel))))) (by decide +kernel)
set_option maxRecDepth 20000 in
theorem wM_X5_230 : Cond.methodLink RX5 230 yX5_deliver ∈ T0 := mT (List.mem_append_right _ (List.mem_append_right _ (List.mem_append_left _ (List.mem_of_getElem? (i := 40) (by decide +kernel))))) (by decide +kernel)
set_option maxRecDepth 20000 in
theorem wN_X5_deliver : Cond.instanceMethod yX5_deliver ∈ T0 := mT (List.mem_append_right _ (List.mem_append_right _ (List.mem_append_left _ (List.mem_of_getElem? (i := 42) (by decide +kernel))))) (by decide +kernel)
set_option maxRecDepth 20000 in
theorem wC_X5_deliver : Cond.code yX5_deliver cX5_deliver 5 (none : Option FieldType) ∈ T0 := mT (List.mem_append_right _ (List.mem_append_right _ (List.mem_append_left _ (List.mem_of_getElem? (i := 43) (by decide +kernel))))) (by decide +kernel)
set_option maxRecDepth 20000 in
theorem wM_X5_196 : Cond.methodLink RX5 196 yX2_put ∈ T0 := mT (List.mem_append_right _ (List.mem_append_right _ (List.mem_append_left _ (List.mem_of_getElem? (i := 44) (by decide +kernel))))) (by decide +kernel)
set_option maxRecDepth 20000 in
theorem wN_X2_put : Cond.instanceMethod yX2_put ∈ T0 := mT (List.mem_append_right _ (List.mem_append_right _ (List.mem_append_left _ (List.mem_of_getElem? (i := 45) (by decide +kernel))))) (by decide +kernel)
set_option maxRecDepth 20000 in
theorem wS_X2_put : Cond.selects RX2 yX2_put yX2_put ∈ T0 := mT (List.mem_append_right _ (List.mem_append_right _ (List.mem_append_left _ (List.mem_of_getElem? (i := 46) (by decide +kernel))))) (by decide +kernel)
set_option maxRecDepth 20000 in
theorem wC_X2_put : Cond.code yX2_put cX2_put 2 (none : Option FieldType) ∈ T0 := mT (List.mem_append_right _ (List.mem_append_right _ (List.mem_append_left _ (List.mem_of_getElem? (i := 47) (by decide +kernel))))) (by decide +kernel)
set_option maxRecDepth 20000 in
theorem wM_X5_240 : Cond.methodLink RX5 240 yX1_append ∈ T0 := mT (List.mem_append_right _ (List.mem_append_right _ (List.mem_append_left _ (List.mem_of_getElem? (i := 48) (by decide +kernel))))) (by decide +kernel)
set_option maxRecDepth 20000 in
theorem wN_X1_append : Cond.instanceMethod yX1_append ∈ T0 := mT (List.mem_append_right _ (List.mem_append_right _ (List.mem_append_left _ (List.mem_of_getElem? (i := 49) (by decide +kernel))))) (by decide +kernel)
set_option maxRecDepth 20000 in
theorem wS_X1_append : Cond.selects RX1 yX1_append yX1_append ∈ T0 := mT (List.mem_append_right _ (List.mem_append_right _ (List.mem_append_left _ (List.mem_of_getElem? (i := 50) (by decide +kernel))))) (by decide +kernel)
set_option maxRecDepth 20000 in
theorem wC_X1_append : Cond.code yX1_append cX1_append 7 (none : Option FieldType) ∈ T0 := mT (List.mem_append_right _ (List.mem_append_right _ (List.mem_append_left _ (List.mem_of_getElem? (i := 51) (by decide +kernel))))) (by decide +kernel)
set_option maxRecDepth 20000 in
theorem wM_X1_19 : Cond.methodLink RX1 19 yX1_roomOf ∈ T0 := mT (List.mem_append_right _ (List.mem_append_right _ (List.mem_append_left _ (List.mem_of_getElem? (i := 52) (by decide +kernel))))) (by decide +kernel)
set_option maxRecDepth 20000 in
theorem wT_X1_roomOf : Cond.static yX1_roomOf ∈ T0 := mT (List.mem_append_right _ (List.mem_append_right _ (List.mem_append_left _ (List.mem_of_getElem? (i := 53) (by decide +kernel))))) (by decide +kernel)
set_option maxRecDepth 20000 in
theorem wC_X1_roomOf : Cond.code yX1_roomOf cX1_roomOf 1 (some FieldType.int) ∈ T0 := mT (List.mem_append_right _ (List.mem_append_right _ (List.mem_append_left _ (List.mem_of_getElem? (i := 54) (by decide +kernel))))) (by decide +kernel)
set_option maxRecDepth 20000 in
theorem wM_X5_187 : Cond.methodLink RX5 187 yX5_receive ∈ T0 := mT (List.mem_append_right _ (List.mem_append_right _ (List.mem_append_left _ (List.mem_of_getElem? (i := 55) (by decide +kernel))))) (by decide +kernel)
set_option maxRecDepth 20000 in
theorem wN_X5_receive : Cond.instanceMethod yX5_receive ∈ T0 := mT (List.mem_append_right _ (List.mem_append_right _ (List.mem_append_left _ (List.mem_of_getElem? (i := 57) (by decide +kernel))))) (by decide +kernel)
set_option maxRecDepth 20000 in
theorem wC_X5_receive : Cond.code yX5_receive cX5_receive 5 (none : Option FieldType) ∈ T0 := mT (List.mem_append_right _ (List.mem_append_right _ (List.mem_append_left _ (List.mem_of_getElem? (i := 58) (by decide +kernel))))) (by decide +kernel)
set_option maxRecDepth 20000 in
theorem wM_X5_234 : Cond.methodLink RX5 234 yX0_hasReceiver ∈ T0 := mT (List.mem_append_right _ (List.mem_append_right _ (List.mem_append_left _ (List.mem_of_getElem? (i := 59) (by decide +kernel))))) (by decide +kernel)
set_option maxRecDepth 20000 in
theorem wN_X0_hasReceiver : Cond.instanceMethod yX0_hasReceiver ∈ T0 := mT (List.mem_append_right _ (List.mem_append_right _ (List.mem_append_left _ (List.mem_of_getElem? (i := 60) (by decide +kernel))))) (by decide +kernel)
set_option maxRecDepth 20000 in
theorem wS_X0_hasReceiver : Cond.selects RX0 yX0_hasReceiver yX0_hasReceiver ∈ T0 := mT (List.mem_append_right _ (List.mem_append_right _ (List.mem_append_left _ (List.mem_of_getElem? (i := 61) (by decide +kernel))))) (by decide +kernel)
set_option maxRecDepth 20000 in
theorem wC_X0_hasReceiver : Cond.code yX0_hasReceiver cX0_hasReceiver 1 (some FieldType.boolean) ∈ T0 := mT (List.mem_append_right _ (List.mem_append_right _ (List.mem_append_left _ (List.mem_of_getElem? (i := 62) (by decide +kernel))))) (by decide +kernel)
set_option maxRecDepth 20000 in
theorem wM_X5_190 : Cond.methodLink RX5 190 yX5_awaitTime ∈ T0 := mT (List.mem_append_right _ (List.mem_append_right _ (List.mem_append_left _ (List.mem_of_getElem? (i := 63) (by decide +kernel))))) (by decide +kernel)
set_option maxRecDepth 20000 in
theorem wN_X5_awaitTime : Cond.instanceMethod yX5_awaitTime ∈ T0 := mT (List.mem_append_right _ (List.mem_append_right _ (List.mem_append_left _ (List.mem_of_getElem? (i := 65) (by decide +kernel))))) (by decide +kernel)
set_option maxRecDepth 20000 in
theorem wC_X5_awaitTime : Cond.code yX5_awaitTime cX5_awaitTime 3 (none : Option FieldType) ∈ T0 := mT (List.mem_append_right _ (List.mem_append_right _ (List.mem_append_left _ (List.mem_of_getElem? (i := 66) (by decide +kernel))))) (by decide +kernel)
set_option maxRecDepth 20000 in
theorem wM_X5_199 : Cond.methodLink RX5 199 yX5_compute ∈ T0 := mT (List.mem_append_right _ (List.mem_append_right _ (List.mem_append_left _ (List.mem_of_getElem? (i := 67) (by decide +kernel))))) (by decide +kernel)
set_option maxRecDepth 20000 in
theorem wN_X5_compute : Cond.instanceMethod yX5_compute ∈ T0 := mT (List.mem_append_right _ (List.mem_append_right _ (List.mem_append_left _ (List.mem_of_getElem? (i := 69) (by decide +kernel))))) (by decide +kernel)
set_option maxRecDepth 20000 in
theorem wC_X5_compute : Cond.code yX5_compute cX5_compute 4 (none : Option FieldType) ∈ T0 := mT (List.mem_append_right _ (List.mem_append_right _ (List.mem_append_left _ (List.mem_of_getElem? (i := 70) (by decide +kernel))))) (by decide +kernel)
set_option maxRecDepth 20000 in
theorem wM_X5_203 : Cond.methodLink RX5 203 yX2_word ∈ T0 := mT (List.mem_append_right _ (List.mem_append_right _ (List.mem_append_left _ (List.mem_of_getElem? (i := 71) (by decide +kernel))))) (by decide +kernel)
set_option maxRecDepth 20000 in
theorem wN_X2_word : Cond.instanceMethod yX2_word ∈ T0 := mT (List.mem_append_right _ (List.mem_append_right _ (List.mem_append_left _ (List.mem_of_getElem? (i := 72) (by decide +kernel))))) (by decide +kernel)
set_option maxRecDepth 20000 in
theorem wS_X2_word : Cond.selects RX2 yX2_word yX2_word ∈ T0 := mT (List.mem_append_right _ (List.mem_append_right _ (List.mem_append_left _ (List.mem_of_getElem? (i := 73) (by decide +kernel))))) (by decide +kernel)
set_option maxRecDepth 20000 in
theorem wC_X2_word : Cond.code yX2_word cX2_word 2 (some FieldType.int) ∈ T0 := mT (List.mem_append_right _ (List.mem_append_right _ (List.mem_append_left _ (List.mem_of_getElem? (i := 74) (by decide +kernel))))) (by decide +kernel)
set_option maxRecDepth 20000 in
theorem wM_X5_206 : Cond.methodLink RX5 206 yX2_setWord ∈ T0 := mT (List.mem_append_right _ (List.mem_append_right _ (List.mem_append_left _ (List.mem_of_getElem? (i := 75) (by decide +kernel))))) (by decide +kernel)
set_option maxRecDepth 20000 in
theorem wN_X2_setWord : Cond.instanceMethod yX2_setWord ∈ T0 := mT (List.mem_append_right _ (List.mem_append_right _ (List.mem_append_left _ (List.mem_of_getElem? (i := 76) (by decide +kernel))))) (by decide +kernel)
set_option maxRecDepth 20000 in
theorem wS_X2_setWord : Cond.selects RX2 yX2_setWord yX2_setWord ∈ T0 := mT (List.mem_append_right _ (List.mem_append_right _ (List.mem_append_left _ (List.mem_of_getElem? (i := 77) (by decide +kernel))))) (by decide +kernel)
set_option maxRecDepth 20000 in
theorem wC_X2_setWord : Cond.code yX2_setWord cX2_setWord 3 (none : Option FieldType) ∈ T0 := mT (List.mem_append_right _ (List.mem_append_right _ (List.mem_append_left _ (List.mem_of_getElem? (i := 78) (by decide +kernel))))) (by decide +kernel)
set_option maxRecDepth 20000 in
theorem wM_X5_216 : Cond.methodLink RX5 216 yX2_replaceTwo ∈ T0 := mT (List.mem_append_right _ (List.mem_append_right _ (List.mem_append_left _ (List.mem_of_getElem? (i := 79) (by decide +kernel))))) (by decide +kernel)
set_option maxRecDepth 20000 in
theorem wN_X2_replaceTwo : Cond.instanceMethod yX2_replaceTwo ∈ T0 := mT (List.mem_append_right _ (List.mem_append_right _ (List.mem_append_left _ (List.mem_of_getElem? (i := 80) (by decide +kernel))))) (by decide +kernel)
set_option maxRecDepth 20000 in
theorem wS_X2_replaceTwo : Cond.selects RX2 yX2_replaceTwo yX2_replaceTwo ∈ T0 := mT (List.mem_append_right _ (List.mem_append_right _ (List.mem_append_left _ (List.mem_of_getElem? (i := 81) (by decide +kernel))))) (by decide +kernel)
set_option maxRecDepth 20000 in
theorem wC_X2_replaceTwo : Cond.code yX2_replaceTwo cX2_replaceTwo 2 (none : Option FieldType) ∈ T0 := mT (List.mem_append_right _ (List.mem_append_right _ (List.mem_append_left _ (List.mem_of_getElem? (i := 82) (by decide +kernel))))) (by decide +kernel)
set_option maxRecDepth 20000 in
theorem wM_L_28 : Cond.methodLink RL 28 yX5_setClock ∈ T0 := mT (List.mem_append_right _ (List.mem_append_right _ (List.mem_append_left _ (List.mem_of_getElem? (i := 83) (by decide +kernel))))) (by decide +kernel)
set_option maxRecDepth 20000 in
theorem wN_X5_setClock : Cond.instanceMethod yX5_setClock ∈ T0 := mT (List.mem_append_right _ (List.mem_append_right _ (List.mem_append_left _ (List.mem_of_getElem? (i := 84) (by decide +kernel))))) (by decide +kernel)
set_option maxRecDepth 20000 in
theorem wS_X5_setClock : Cond.selects RX5 yX5_setClock yX5_setClock ∈ T0 := mT (List.mem_append_right _ (List.mem_append_right _ (List.mem_append_left _ (List.mem_of_getElem? (i := 85) (by decide +kernel))))) (by decide +kernel)
set_option maxRecDepth 20000 in
theorem wC_X5_setClock : Cond.code yX5_setClock cX5_setClock 2 (none : Option FieldType) ∈ T0 := mT (List.mem_append_right _ (List.mem_append_right _ (List.mem_append_left _ (List.mem_of_getElem? (i := 86) (by decide +kernel))))) (by decide +kernel)
set_option maxRecDepth 20000 in
theorem wM_L_33 : Cond.methodLink RL 33 yX5_reset ∈ T0 := mT (List.mem_append_right _ (List.mem_append_right _ (List.mem_append_left _ (List.mem_of_getElem? (i := 87) (by decide +kernel))))) (by decide +kernel)
set_option maxRecDepth 20000 in
theorem wN_X5_reset : Cond.instanceMethod yX5_reset ∈ T0 := mT (List.mem_append_right _ (List.mem_append_right _ (List.mem_append_left _ (List.mem_of_getElem? (i := 88) (by decide +kernel))))) (by decide +kernel)
set_option maxRecDepth 20000 in
theorem wS_X5_reset : Cond.selects RX5 yX5_reset yX5_reset ∈ T0 := mT (List.mem_append_right _ (List.mem_append_right _ (List.mem_append_left _ (List.mem_of_getElem? (i := 89) (by decide +kernel))))) (by decide +kernel)
set_option maxRecDepth 20000 in
theorem wC_X5_reset : Cond.code yX5_reset cX5_reset 2 (none : Option FieldType) ∈ T0 := mT (List.mem_append_right _ (List.mem_append_right _ (List.mem_append_left _ (List.mem_of_getElem? (i := 90) (by decide +kernel))))) (by decide +kernel)
set_option maxRecDepth 20000 in
theorem wM_X5_86 : Cond.methodLink RX5 86 yX4_clear ∈ T0 := mT (List.mem_append_right _ (List.mem_append_right _ (List.mem_append_left _ (List.mem_of_getElem? (i := 91) (by decide +kernel))))) (by decide +kernel)
set_option maxRecDepth 20000 in
theorem wN_X4_clear : Cond.instanceMethod yX4_clear ∈ T0 := mT (List.mem_append_right _ (List.mem_append_right _ (List.mem_append_left _ (List.mem_of_getElem? (i := 92) (by decide +kernel))))) (by decide +kernel)
set_option maxRecDepth 20000 in
theorem wS_X4_clear : Cond.selects RX4 yX4_clear yX4_clear ∈ T0 := mT (List.mem_append_right _ (List.mem_append_right _ (List.mem_append_left _ (List.mem_of_getElem? (i := 93) (by decide +kernel))))) (by decide +kernel)
set_option maxRecDepth 20000 in
theorem wC_X4_clear : Cond.code yX4_clear cX4_clear 1 (none : Option FieldType) ∈ T0 := mT (List.mem_append_right _ (List.mem_append_right _ (List.mem_append_left _ (List.mem_of_getElem? (i := 94) (by decide +kernel))))) (by decide +kernel)
set_option maxRecDepth 20000 in
theorem wM_L_37 : Cond.methodLink RL 37 yX5_clock ∈ T0 := mT (List.mem_append_right _ (List.mem_append_right _ (List.mem_append_left _ (List.mem_of_getElem? (i := 95) (by decide +kernel))))) (by decide +kernel)
set_option maxRecDepth 20000 in
theorem wN_X5_clock : Cond.instanceMethod yX5_clock ∈ T0 := mT (List.mem_append_right _ (List.mem_append_right _ (List.mem_append_left _ (List.mem_of_getElem? (i := 96) (by decide +kernel))))) (by decide +kernel)
set_option maxRecDepth 20000 in
theorem wS_X5_clock : Cond.selects RX5 yX5_clock yX5_clock ∈ T0 := mT (List.mem_append_right _ (List.mem_append_right _ (List.mem_append_left _ (List.mem_of_getElem? (i := 97) (by decide +kernel))))) (by decide +kernel)
set_option maxRecDepth 20000 in
theorem wC_X5_clock : Cond.code yX5_clock cX5_clock 1 (some FieldType.int) ∈ T0 := mT (List.mem_append_right _ (List.mem_append_right _ (List.mem_append_left _ (List.mem_of_getElem? (i := 98) (by decide +kernel))))) (by decide +kernel)
set_option maxRecDepth 20000 in
theorem wM_L_42 : Cond.methodLink RL 42 yX5_running ∈ T0 := mT (List.mem_append_right _ (List.mem_append_right _ (List.mem_append_left _ (List.mem_of_getElem? (i := 99) (by decide +kernel))))) (by decide +kernel)
set_option maxRecDepth 20000 in
theorem wN_X5_running : Cond.instanceMethod yX5_running ∈ T0 := mT (List.mem_append_right _ (List.mem_append_right _ (List.mem_append_left _ (List.mem_of_getElem? (i := 100) (by decide +kernel))))) (by decide +kernel)
set_option maxRecDepth 20000 in
theorem wS_X5_running : Cond.selects RX5 yX5_running yX5_running ∈ T0 := mT (List.mem_append_right _ (List.mem_append_right _ (List.mem_append_left _ (List.mem_of_getElem? (i := 101) (by decide +kernel))))) (by decide +kernel)
set_option maxRecDepth 20000 in
theorem wC_X5_running : Cond.code yX5_running cX5_running 1 (some FieldType.int) ∈ T0 := mT (List.mem_append_right _ (List.mem_append_right _ (List.mem_append_left _ (List.mem_of_getElem? (i := 102) (by decide +kernel))))) (by decide +kernel)
set_option maxRecDepth 20000 in
theorem wM_L_46 : Cond.methodLink RL 46 yX5_state ∈ T0 := mT (List.mem_append_right _ (List.mem_append_right _ (List.mem_append_left _ (List.mem_of_getElem? (i := 103) (by decide +kernel))))) (by decide +kernel)
set_option maxRecDepth 20000 in
theorem wN_X5_state : Cond.instanceMethod yX5_state ∈ T0 := mT (List.mem_append_right _ (List.mem_append_right _ (List.mem_append_left _ (List.mem_of_getElem? (i := 104) (by decide +kernel))))) (by decide +kernel)
set_option maxRecDepth 20000 in
theorem wS_X5_state : Cond.selects RX5 yX5_state yX5_state ∈ T0 := mT (List.mem_append_right _ (List.mem_append_right _ (List.mem_append_left _ (List.mem_of_getElem? (i := 105) (by decide +kernel))))) (by decide +kernel)
set_option maxRecDepth 20000 in
theorem wC_X5_state : Cond.code yX5_state cX5_state 2 (some FieldType.int) ∈ T0 := mT (List.mem_append_right _ (List.mem_append_right _ (List.mem_append_left _ (List.mem_of_getElem? (i := 106) (by decide +kernel))))) (by decide +kernel)
set_option maxRecDepth 20000 in
theorem wM_X5_90 : Cond.methodLink RX5 90 yX5_isProcess ∈ T0 := mT (List.mem_append_right _ (List.mem_append_right _ (List.mem_append_left _ (List.mem_of_getElem? (i := 107) (by decide +kernel))))) (by decide +kernel)
set_option maxRecDepth 20000 in
theorem wT_X5_isProcess : Cond.static yX5_isProcess ∈ T0 := mT (List.mem_append_right _ (List.mem_append_right _ (List.mem_append_left _ (List.mem_of_getElem? (i := 108) (by decide +kernel))))) (by decide +kernel)
set_option maxRecDepth 20000 in
theorem wC_X5_isProcess : Cond.code yX5_isProcess cX5_isProcess 1 (some FieldType.boolean) ∈ T0 := mT (List.mem_append_right _ (List.mem_append_right _ (List.mem_append_left _ (List.mem_of_getElem? (i := 109) (by decide +kernel))))) (by decide +kernel)
set_option maxRecDepth 20000 in
theorem wM_L_50 : Cond.methodLink RL 50 yX5_look ∈ T0 := mT (List.mem_append_right _ (List.mem_append_right _ (List.mem_append_left _ (List.mem_of_getElem? (i := 110) (by decide +kernel))))) (by decide +kernel)
set_option maxRecDepth 20000 in
theorem wN_X5_look : Cond.instanceMethod yX5_look ∈ T0 := mT (List.mem_append_right _ (List.mem_append_right _ (List.mem_append_left _ (List.mem_of_getElem? (i := 111) (by decide +kernel))))) (by decide +kernel)
set_option maxRecDepth 20000 in
theorem wS_X5_look : Cond.selects RX5 yX5_look yX5_look ∈ T0 := mT (List.mem_append_right _ (List.mem_append_right _ (List.mem_append_left _ (List.mem_of_getElem? (i := 112) (by decide +kernel))))) (by decide +kernel)
set_option maxRecDepth 20000 in
theorem wC_X5_look : Cond.code yX5_look cX5_look 3 (some FieldType.long) ∈ T0 := mT (List.mem_append_right _ (List.mem_append_right _ (List.mem_append_left _ (List.mem_of_getElem? (i := 113) (by decide +kernel))))) (by decide +kernel)
set_option maxRecDepth 20000 in
theorem wK_X5_93 : Cond.constantLong RX5 93 4294967296 ∈ T0 := mT (List.mem_append_right _ (List.mem_append_right _ (List.mem_append_left _ (List.mem_of_getElem? (i := 114) (by decide +kernel))))) (by decide +kernel)
set_option maxRecDepth 20000 in
theorem wM_X5_95 : Cond.methodLink RX5 95 yX2_part ∈ T0 := mT (List.mem_append_right _ (List.mem_append_right _ (List.mem_append_left _ (List.mem_of_getElem? (i := 115) (by decide +kernel))))) (by decide +kernel)
set_option maxRecDepth 20000 in
theorem wN_X2_part : Cond.instanceMethod yX2_part ∈ T0 := mT (List.mem_append_right _ (List.mem_append_right _ (List.mem_append_left _ (List.mem_of_getElem? (i := 116) (by decide +kernel))))) (by decide +kernel)
set_option maxRecDepth 20000 in
theorem wS_X2_part : Cond.selects RX2 yX2_part yX2_part ∈ T0 := mT (List.mem_append_right _ (List.mem_append_right _ (List.mem_append_left _ (List.mem_of_getElem? (i := 117) (by decide +kernel))))) (by decide +kernel)
set_option maxRecDepth 20000 in
theorem wC_X2_part : Cond.code yX2_part cX2_part 2 (some FieldType.long) ∈ T0 := mT (List.mem_append_right _ (List.mem_append_right _ (List.mem_append_left _ (List.mem_of_getElem? (i := 118) (by decide +kernel))))) (by decide +kernel)
set_option maxRecDepth 20000 in
theorem wM_X2_37 : Cond.methodLink RX2 37 yX2_word ∈ T0 := mT (List.mem_append_right _ (List.mem_append_right _ (List.mem_append_left _ (List.mem_of_getElem? (i := 119) (by decide +kernel))))) (by decide +kernel)
set_option maxRecDepth 20000 in
theorem wK_X2_41 : Cond.constantLong RX2 41 4294967296 ∈ T0 := mT (List.mem_append_right _ (List.mem_append_right _ (List.mem_append_left _ (List.mem_of_getElem? (i := 120) (by decide +kernel))))) (by decide +kernel)
set_option maxRecDepth 20000 in
theorem wM_L_55 : Cond.methodLink RL 55 yX5_waiting ∈ T0 := mT (List.mem_append_right _ (List.mem_append_right _ (List.mem_append_left _ (List.mem_of_getElem? (i := 121) (by decide +kernel))))) (by decide +kernel)
set_option maxRecDepth 20000 in
theorem wN_X5_waiting : Cond.instanceMethod yX5_waiting ∈ T0 := mT (List.mem_append_right _ (List.mem_append_right _ (List.mem_append_left _ (List.mem_of_getElem? (i := 122) (by decide +kernel))))) (by decide +kernel)
set_option maxRecDepth 20000 in
theorem wS_X5_waiting : Cond.selects RX5 yX5_waiting yX5_waiting ∈ T0 := mT (List.mem_append_right _ (List.mem_append_right _ (List.mem_append_left _ (List.mem_of_getElem? (i := 123) (by decide +kernel))))) (by decide +kernel)
set_option maxRecDepth 20000 in
theorem wC_X5_waiting : Cond.code yX5_waiting cX5_waiting 3 (some FieldType.int) ∈ T0 := mT (List.mem_append_right _ (List.mem_append_right _ (List.mem_append_left _ (List.mem_of_getElem? (i := 124) (by decide +kernel))))) (by decide +kernel)
set_option maxRecDepth 20000 in
theorem wM_X5_103 : Cond.methodLink RX5 103 yX4_numberAt ∈ T0 := mT (List.mem_append_right _ (List.mem_append_right _ (List.mem_append_left _ (List.mem_of_getElem? (i := 125) (by decide +kernel))))) (by decide +kernel)
set_option maxRecDepth 20000 in
theorem wN_X4_numberAt : Cond.instanceMethod yX4_numberAt ∈ T0 := mT (List.mem_append_right _ (List.mem_append_right _ (List.mem_append_left _ (List.mem_of_getElem? (i := 126) (by decide +kernel))))) (by decide +kernel)
set_option maxRecDepth 20000 in
theorem wS_X4_numberAt : Cond.selects RX4 yX4_numberAt yX4_numberAt ∈ T0 := mT (List.mem_append_right _ (List.mem_append_right _ (List.mem_append_left _ (List.mem_of_getElem? (i := 127) (by decide +kernel))))) (by decide +kernel)
set_option maxRecDepth 20000 in
theorem wC_X4_numberAt : Cond.code yX4_numberAt cX4_numberAt 3 (some FieldType.int) ∈ T0 := mT (List.mem_append_right _ (List.mem_append_right _ (List.mem_append_left _ (List.mem_of_getElem? (i := 128) (by decide +kernel))))) (by decide +kernel)
set_option maxRecDepth 20000 in
theorem wM_L_59 : Cond.methodLink RL 59 yX5_channel ∈ T0 := mT (List.mem_append_right _ (List.mem_append_right _ (List.mem_append_left _ (List.mem_of_getElem? (i := 129) (by decide +kernel))))) (by decide +kernel)
set_option maxRecDepth 20000 in
theorem wN_X5_channel : Cond.instanceMethod yX5_channel ∈ T0 := mT (List.mem_append_right _ (List.mem_append_right _ (List.mem_append_left _ (List.mem_of_getElem? (i := 130) (by decide +kernel))))) (by decide +kernel)
set_option maxRecDepth 20000 in
theorem wS_X5_channel : Cond.selects RX5 yX5_channel yX5_channel ∈ T0 := mT (List.mem_append_right _ (List.mem_append_right _ (List.mem_append_left _ (List.mem_of_getElem? (i := 131) (by decide +kernel))))) (by decide +kernel)
set_option maxRecDepth 20000 in
theorem wC_X5_channel : Cond.code yX5_channel cX5_channel 3 (some FieldType.int) ∈ T0 := mT (List.mem_append_right _ (List.mem_append_right _ (List.mem_append_left _ (List.mem_of_getElem? (i := 132) (by decide +kernel))))) (by decide +kernel)
set_option maxRecDepth 20000 in
theorem wM_X5_111 : Cond.methodLink RX5 111 yX0_code ∈ T0 := mT (List.mem_append_right _ (List.mem_append_right _ (List.mem_append_left _ (List.mem_of_getElem? (i := 133) (by decide +kernel))))) (by decide +kernel)
set_option maxRecDepth 20000 in
theorem wN_X0_code : Cond.instanceMethod yX0_code ∈ T0 := mT (List.mem_append_right _ (List.mem_append_right _ (List.mem_append_left _ (List.mem_of_getElem? (i := 134) (by decide +kernel))))) (by decide +kernel)
set_option maxRecDepth 20000 in
theorem wS_X0_code : Cond.selects RX0 yX0_code yX0_code ∈ T0 := mT (List.mem_append_right _ (List.mem_append_right _ (List.mem_append_left _ (List.mem_of_getElem? (i := 135) (by decide +kernel))))) (by decide +kernel)
set_option maxRecDepth 20000 in
theorem wC_X0_code : Cond.code yX0_code cX0_code 1 (some FieldType.int) ∈ T0 := mT (List.mem_append_right _ (List.mem_append_right _ (List.mem_append_left _ (List.mem_of_getElem? (i := 136) (by decide +kernel))))) (by decide +kernel)
set_option maxRecDepth 20000 in
theorem wM_L_63 : Cond.methodLink RL 63 yX5_messages ∈ T0 := mT (List.mem_append_right _ (List.mem_append_right _ (List.mem_append_left _ (List.mem_of_getElem? (i := 137) (by decide +kernel))))) (by decide +kernel)
set_option maxRecDepth 20000 in
theorem wN_X5_messages : Cond.instanceMethod yX5_messages ∈ T0 := mT (List.mem_append_right _ (List.mem_append_right _ (List.mem_append_left _ (List.mem_of_getElem? (i := 138) (by decide +kernel))))) (by decide +kernel)
set_option maxRecDepth 20000 in
theorem wS_X5_messages : Cond.selects RX5 yX5_messages yX5_messages ∈ T0 := mT (List.mem_append_right _ (List.mem_append_right _ (List.mem_append_left _ (List.mem_of_getElem? (i := 139) (by decide +kernel))))) (by decide +kernel)
set_option maxRecDepth 20000 in
theorem wC_X5_messages : Cond.code yX5_messages cX5_messages 1 (some FieldType.int) ∈ T0 := mT (List.mem_append_right _ (List.mem_append_right _ (List.mem_append_left _ (List.mem_of_getElem? (i := 140) (by decide +kernel))))) (by decide +kernel)
set_option maxRecDepth 20000 in
theorem wM_L_67 : Cond.methodLink RL 67 yX5_message ∈ T0 := mT (List.mem_append_right _ (List.mem_append_right _ (List.mem_append_left _ (List.mem_of_getElem? (i := 141) (by decide +kernel))))) (by decide +kernel)
set_option maxRecDepth 20000 in
theorem wN_X5_message : Cond.instanceMethod yX5_message ∈ T0 := mT (List.mem_append_right _ (List.mem_append_right _ (List.mem_append_left _ (List.mem_of_getElem? (i := 142) (by decide +kernel))))) (by decide +kernel)
set_option maxRecDepth 20000 in
theorem wS_X5_message : Cond.selects RX5 yX5_message yX5_message ∈ T0 := mT (List.mem_append_right _ (List.mem_append_right _ (List.mem_append_left _ (List.mem_of_getElem? (i := 143) (by decide +kernel))))) (by decide +kernel)
set_option maxRecDepth 20000 in
theorem wC_X5_message : Cond.code yX5_message cX5_message 3 (some FieldType.long) ∈ T0 := mT (List.mem_append_right _ (List.mem_append_right _ (List.mem_append_left _ (List.mem_of_getElem? (i := 144) (by decide +kernel))))) (by decide +kernel)
set_option maxRecDepth 20000 in
theorem wM_X5_118 : Cond.methodLink RX5 118 yX1_part ∈ T0 := mT (List.mem_append_right _ (List.mem_append_right _ (List.mem_append_left _ (List.mem_of_getElem? (i := 145) (by decide +kernel))))) (by decide +kernel)
set_option maxRecDepth 20000 in
theorem wN_X1_part : Cond.instanceMethod yX1_part ∈ T0 := mT (List.mem_append_right _ (List.mem_append_right _ (List.mem_append_left _ (List.mem_of_getElem? (i := 146) (by decide +kernel))))) (by decide +kernel)
set_option maxRecDepth 20000 in
theorem wS_X1_part : Cond.selects RX1 yX1_part yX1_part ∈ T0 := mT (List.mem_append_right _ (List.mem_append_right _ (List.mem_append_left _ (List.mem_of_getElem? (i := 147) (by decide +kernel))))) (by decide +kernel)
set_option maxRecDepth 20000 in
theorem wC_X1_part : Cond.code yX1_part cX1_part 3 (some FieldType.long) ∈ T0 := mT (List.mem_append_right _ (List.mem_append_right _ (List.mem_append_left _ (List.mem_of_getElem? (i := 148) (by decide +kernel))))) (by decide +kernel)
set_option maxRecDepth 20000 in
theorem wK_X1_23 : Cond.constantLong RX1 23 4294967296 ∈ T0 := mT (List.mem_append_right _ (List.mem_append_right _ (List.mem_append_left _ (List.mem_of_getElem? (i := 149) (by decide +kernel))))) (by decide +kernel)
set_option maxRecDepth 20000 in
theorem wL_L_10 : Cond.classLink RL 10 RX6 ∈ T0 := mT (List.mem_append_right _ (List.mem_append_right _ (List.mem_append_left _ (List.mem_of_getElem? (i := 150) (by decide +kernel))))) (by decide +kernel)
set_option maxRecDepth 20000 in
theorem wn_X6 : Cond.instantiable RX6 16 ∈ T0 := mT (List.mem_append_right _ (List.mem_append_right _ (List.mem_append_left _ (List.mem_of_getElem? (i := 151) (by decide +kernel))))) (by decide +kernel)
set_option maxRecDepth 20000 in
theorem wM_L_12 : Cond.methodLink RL 12 yX6_init ∈ T0 := mT (List.mem_append_right _ (List.mem_append_right _ (List.mem_append_left _ (List.mem_of_getElem? (i := 152) (by decide +kernel))))) (by decide +kernel)
set_option maxRecDepth 20000 in
theorem wN_X6_init : Cond.instanceMethod yX6_init ∈ T0 := mT (List.mem_append_right _ (List.mem_append_right _ (List.mem_append_left _ (List.mem_of_getElem? (i := 153) (by decide +kernel))))) (by decide +kernel)
set_option maxRecDepth 20000 in
theorem wC_X6_init : Cond.code yX6_init cX6_init 1 (none : Option FieldType) ∈ T0 := mT (List.mem_append_right _ (List.mem_append_right _ (List.mem_append_left _ (List.mem_of_getElem? (i := 154) (by decide +kernel))))) (by decide +kernel)
set_option maxRecDepth 20000 in
theorem wM_X6_1 : Cond.methodLink RX6 1 objectInit ∈ T0 := mT (List.mem_append_right _ (List.mem_append_right _ (List.mem_append_left _ (List.mem_of_getElem? (i := 155) (by decide +kernel))))) (by decide +kernel)
set_option maxRecDepth 20000 in
theorem wF_X6_7 : Cond.fieldLink RX6 7 "ProcessTurnsModel" "code" "[I" ∈ T0 := mT (List.mem_append_right _ (List.mem_append_right _ (List.mem_append_left _ (List.mem_of_getElem? (i := 156) (by decide +kernel))))) (by decide +kernel)
set_option maxRecDepth 20000 in
theorem wF_X6_44 : Cond.fieldLink RX6 44 "ProcessTurnsModel" "length" "I" ∈ T0 := mT (List.mem_append_right _ (List.mem_append_right _ (List.mem_append_left _ (List.mem_of_getElem? (i := 157) (by decide +kernel))))) (by decide +kernel)
set_option maxRecDepth 20000 in
theorem wF_X6_13 : Cond.fieldLink RX6 13 "ProcessTurnsModel" "state" "[I" ∈ T0 := mT (List.mem_append_right _ (List.mem_append_right _ (List.mem_append_left _ (List.mem_of_getElem? (i := 158) (by decide +kernel))))) (by decide +kernel)
set_option maxRecDepth 20000 in
theorem wF_X6_16 : Cond.fieldLink RX6 16 "ProcessTurnsModel" "priority" "[I" ∈ T0 := mT (List.mem_append_right _ (List.mem_append_right _ (List.mem_append_left _ (List.mem_of_getElem? (i := 159) (by decide +kernel))))) (by decide +kernel)
set_option maxRecDepth 20000 in
theorem wF_X6_19 : Cond.fieldLink RX6 19 "ProcessTurnsModel" "place" "[I" ∈ T0 := mT (List.mem_append_right _ (List.mem_append_right _ (List.mem_append_left _ (List.mem_of_getElem? (i := 160) (by decide +kernel))))) (by decide +kernel)
set_option maxRecDepth 20000 in
theorem wF_X6_22 : Cond.fieldLink RX6 22 "ProcessTurnsModel" "cells" "[I" ∈ T0 := mT (List.mem_append_right _ (List.mem_append_right _ (List.mem_append_left _ (List.mem_of_getElem? (i := 161) (by decide +kernel))))) (by decide +kernel)
set_option maxRecDepth 20000 in
theorem wF_X6_25 : Cond.fieldLink RX6 25 "ProcessTurnsModel" "rank" "[I" ∈ T0 := mT (List.mem_append_right _ (List.mem_append_right _ (List.mem_append_left _ (List.mem_of_getElem? (i := 162) (by decide +kernel))))) (by decide +kernel)
set_option maxRecDepth 20000 in
theorem wF_X6_28 : Cond.fieldLink RX6 28 "ProcessTurnsModel" "until" "[I" ∈ T0 := mT (List.mem_append_right _ (List.mem_append_right _ (List.mem_append_left _ (List.mem_of_getElem? (i := 163) (by decide +kernel))))) (by decide +kernel)
set_option maxRecDepth 20000 in
theorem wF_X6_31 : Cond.fieldLink RX6 31 "ProcessTurnsModel" "message" "[I" ∈ T0 := mT (List.mem_append_right _ (List.mem_append_right _ (List.mem_append_left _ (List.mem_of_getElem? (i := 164) (by decide +kernel))))) (by decide +kernel)
set_option maxRecDepth 20000 in
theorem wF_X6_96 : Cond.fieldLink RX6 96 "ProcessTurnsModel" "first" "I" ∈ T0 := mT (List.mem_append_right _ (List.mem_append_right _ (List.mem_append_left _ (List.mem_of_getElem? (i := 165) (by decide +kernel))))) (by decide +kernel)
set_option maxRecDepth 20000 in
theorem wF_X6_48 : Cond.fieldLink RX6 48 "ProcessTurnsModel" "last" "I" ∈ T0 := mT (List.mem_append_right _ (List.mem_append_right _ (List.mem_append_left _ (List.mem_of_getElem? (i := 166) (by decide +kernel))))) (by decide +kernel)
set_option maxRecDepth 20000 in
theorem wF_X6_59 : Cond.fieldLink RX6 59 "ProcessTurnsModel" "clock" "I" ∈ T0 := mT (List.mem_append_right _ (List.mem_append_right _ (List.mem_append_left _ (List.mem_of_getElem? (i := 167) (by decide +kernel))))) (by decide +kernel)
set_option maxRecDepth 20000 in
theorem wF_X6_76 : Cond.fieldLink RX6 76 "ProcessTurnsModel" "done" "I" ∈ T0 := mT (List.mem_append_right _ (List.mem_append_right _ (List.mem_append_left _ (List.mem_of_getElem? (i := 168) (by decide +kernel))))) (by decide +kernel)
set_option maxRecDepth 20000 in
theorem wF_X6_34 : Cond.fieldLink RX6 34 "ProcessTurnsModel" "channel" "[I" ∈ T0 := mT (List.mem_append_right _ (List.mem_append_right _ (List.mem_append_left _ (List.mem_of_getElem? (i := 169) (by decide +kernel))))) (by decide +kernel)
set_option maxRecDepth 20000 in
theorem wF_X6_62 : Cond.fieldLink RX6 62 "ProcessTurnsModel" "messages" "I" ∈ T0 := mT (List.mem_append_right _ (List.mem_append_right _ (List.mem_append_left _ (List.mem_of_getElem? (i := 170) (by decide +kernel))))) (by decide +kernel)
set_option maxRecDepth 20000 in
theorem wF_X6_37 : Cond.fieldLink RX6 37 "ProcessTurnsModel" "log" "[I" ∈ T0 := mT (List.mem_append_right _ (List.mem_append_right _ (List.mem_append_left _ (List.mem_of_getElem? (i := 171) (by decide +kernel))))) (by decide +kernel)
set_option maxRecDepth 20000 in
theorem wM_L_17 : Cond.methodLink RL 17 yX6_add ∈ T0 := mT (List.mem_append_right _ (List.mem_append_right _ (List.mem_append_left _ (List.mem_of_getElem? (i := 205) (by decide +kernel))))) (by decide +kernel)
set_option maxRecDepth 20000 in
theorem wN_X6_add : Cond.instanceMethod yX6_add ∈ T0 := mT (List.mem_append_right _ (List.mem_append_right _ (List.mem_append_left _ (List.mem_of_getElem? (i := 206) (by decide +kernel))))) (by decide +kernel)
set_option maxRecDepth 20000 in
theorem wS_X6_add : Cond.selects RX6 yX6_add yX6_add ∈ T0 := mT (List.mem_append_right _ (List.mem_append_right _ (List.mem_append_left _ (List.mem_of_getElem? (i := 207) (by decide +kernel))))) (by decide +kernel)
set_option maxRecDepth 20000 in
theorem wC_X6_add : Cond.code yX6_add cX6_add 4 (some FieldType.int) ∈ T0 := mT (List.mem_append_right _ (List.mem_append_right _ (List.mem_append_left _ (List.mem_of_getElem? (i := 208) (by decide +kernel))))) (by decide +kernel)
set_option maxRecDepth 20000 in
theorem wM_X6_40 : Cond.methodLink RX6 40 yX6_within ∈ T0 := mT (List.mem_append_right _ (List.mem_append_right _ (List.mem_append_left _ (List.mem_of_getElem? (i := 209) (by decide +kernel))))) (by decide +kernel)
set_option maxRecDepth 20000 in
theorem wT_X6_within : Cond.static yX6_within ∈ T0 := mT (List.mem_append_right _ (List.mem_append_right _ (List.mem_append_left _ (List.mem_of_getElem? (i := 210) (by decide +kernel))))) (by decide +kernel)
set_option maxRecDepth 20000 in
theorem wC_X6_within : Cond.code yX6_within cX6_within 3 (some FieldType.boolean) ∈ T0 := mT (List.mem_append_right _ (List.mem_append_right _ (List.mem_append_left _ (List.mem_of_getElem? (i := 211) (by decide +kernel))))) (by decide +kernel)
set_option maxRecDepth 20000 in
theorem wM_L_22 : Cond.methodLink RL 22 yX6_start ∈ T0 := mT (List.mem_append_right _ (List.mem_append_right _ (List.mem_append_left _ (List.mem_of_getElem? (i := 212) (by decide +kernel))))) (by decide +kernel)
set_option maxRecDepth 20000 in
theorem wN_X6_start : Cond.instanceMethod yX6_start ∈ T0 := mT (List.mem_append_right _ (List.mem_append_right _ (List.mem_append_left _ (List.mem_of_getElem? (i := 213) (by decide +kernel))))) (by decide +kernel)
set_option maxRecDepth 20000 in
theorem wS_X6_start : Cond.selects RX6 yX6_start yX6_start ∈ T0 := mT (List.mem_append_right _ (List.mem_append_right _ (List.mem_append_left _ (List.mem_of_getElem? (i := 214) (by decide +kernel))))) (by decide +kernel)
set_option maxRecDepth 20000 in
theorem wC_X6_start : Cond.code yX6_start cX6_start 5 (some FieldType.int) ∈ T0 := mT (List.mem_append_right _ (List.mem_append_right _ (List.mem_append_left _ (List.mem_of_getElem? (i := 215) (by decide +kernel))))) (by decide +kernel)
set_option maxRecDepth 20000 in
theorem wM_X6_55 : Cond.methodLink RX6 55 yX6_begin ∈ T0 := mT (List.mem_append_right _ (List.mem_append_right _ (List.mem_append_left _ (List.mem_of_getElem? (i := 216) (by decide +kernel))))) (by decide +kernel)
set_option maxRecDepth 20000 in
theorem wN_X6_begin : Cond.instanceMethod yX6_begin ∈ T0 := mT (List.mem_append_right _ (List.mem_append_right _ (List.mem_append_left _ (List.mem_of_getElem? (i := 218) (by decide +kernel))))) (by decide +kernel)
set_option maxRecDepth 20000 in
theorem wC_X6_begin : Cond.code yX6_begin cX6_begin 6 (some FieldType.int) ∈ T0 := mT (List.mem_append_right _ (List.mem_append_right _ (List.mem_append_left _ (List.mem_of_getElem? (i := 219) (by decide +kernel))))) (by decide +kernel)
set_option maxRecDepth 20000 in
theorem wM_X6_51 : Cond.methodLink RX6 51 yX6_atEnd ∈ T0 := mT (List.mem_append_right _ (List.mem_append_right _ (List.mem_append_left _ (List.mem_of_getElem? (i := 220) (by decide +kernel))))) (by decide +kernel)
set_option maxRecDepth 20000 in
theorem wN_X6_atEnd : Cond.instanceMethod yX6_atEnd ∈ T0 := mT (List.mem_append_right _ (List.mem_append_right _ (List.mem_append_left _ (List.mem_of_getElem? (i := 222) (by decide +kernel))))) (by decide +kernel)
set_option maxRecDepth 20000 in
theorem wC_X6_atEnd : Cond.code yX6_atEnd cX6_atEnd 2 (none : Option FieldType) ∈ T0 := mT (List.mem_append_right _ (List.mem_append_right _ (List.mem_append_left _ (List.mem_of_getElem? (i := 223) (by decide +kernel))))) (by decide +kernel)
set_option maxRecDepth 20000 in
theorem wM_L_32 : Cond.methodLink RL 32 yX6_setClock ∈ T0 := mT (List.mem_append_right _ (List.mem_append_right _ (List.mem_append_left _ (List.mem_of_getElem? (i := 224) (by decide +kernel))))) (by decide +kernel)
set_option maxRecDepth 20000 in
theorem wN_X6_setClock : Cond.instanceMethod yX6_setClock ∈ T0 := mT (List.mem_append_right _ (List.mem_append_right _ (List.mem_append_left _ (List.mem_of_getElem? (i := 225) (by decide +kernel))))) (by decide +kernel)
set_option maxRecDepth 20000 in
theorem wS_X6_setClock : Cond.selects RX6 yX6_setClock yX6_setClock ∈ T0 := mT (List.mem_append_right _ (List.mem_append_right _ (List.mem_append_left _ (List.mem_of_getElem? (i := 226) (by decide +kernel))))) (by decide +kernel)
set_option maxRecDepth 20000 in
theorem wC_X6_setClock : Cond.code yX6_setClock cX6_setClock 2 (none : Option FieldType) ∈ T0 := mT (List.mem_append_right _ (List.mem_append_right _ (List.mem_append_left _ (List.mem_of_getElem? (i := 227) (by decide +kernel))))) (by decide +kernel)
set_option maxRecDepth 20000 in
theorem wM_L_36 : Cond.methodLink RL 36 yX6_reset ∈ T0 := mT (List.mem_append_right _ (List.mem_append_right _ (List.mem_append_left _ (List.mem_of_getElem? (i := 228) (by decide +kernel))))) (by decide +kernel)
set_option maxRecDepth 20000 in
theorem wN_X6_reset : Cond.instanceMethod yX6_reset ∈ T0 := mT (List.mem_append_right _ (List.mem_append_right _ (List.mem_append_left _ (List.mem_of_getElem? (i := 229) (by decide +kernel))))) (by decide +kernel)
set_option maxRecDepth 20000 in
theorem wS_X6_reset : Cond.selects RX6 yX6_reset yX6_reset ∈ T0 := mT (List.mem_append_right _ (List.mem_append_right _ (List.mem_append_left _ (List.mem_of_getElem? (i := 230) (by decide +kernel))))) (by decide +kernel)
set_option maxRecDepth 20000 in
theorem wC_X6_reset : Cond.code yX6_reset cX6_reset 2 (none : Option FieldType) ∈ T0 := mT (List.mem_append_right _ (List.mem_append_right _ (List.mem_append_left _ (List.mem_of_getElem? (i := 231) (by decide +kernel))))) (by decide +kernel)
set_option maxRecDepth 20000 in
theorem wM_L_27 : Cond.methodLink RL 27 yX6_run ∈ T0 := mT (List.mem_append_right _ (List.mem_append_right _ (List.mem_append_left _ (List.mem_of_getElem? (i := 232) (by decide +kernel))))) (by decide +kernel)
set_option maxRecDepth 20000 in
theorem wN_X6_run : Cond.instanceMethod yX6_run ∈ T0 := mT (List.mem_append_right _ (List.mem_append_right _ (List.mem_append_left _ (List.mem_of_getElem? (i := 233) (by decide +kernel))))) (by decide +kernel)
set_option maxRecDepth 20000 in
theorem wS_X6_run : Cond.selects RX6 yX6_run yX6_run ∈ T0 := mT (List.mem_append_right _ (List.mem_append_right _ (List.mem_append_left _ (List.mem_of_getElem? (i := 234) (by decide +kernel))))) (by decide +kernel)
set_option maxRecDepth 20000 in
theorem wC_X6_run : Cond.code yX6_run cX6_run 4 (some FieldType.int) ∈ T0 := mT (List.mem_append_right _ (List.mem_append_right _ (List.mem_append_left _ (List.mem_of_getElem? (i := 235) (by decide +kernel))))) (by decide +kernel)
set_option maxRecDepth 20000 in
theorem wM_X6_102 : Cond.methodLink RX6 102 yX6_step ∈ T0 := mT (List.mem_append_right _ (List.mem_append_right _ (List.mem_append_left _ (List.mem_of_getElem? (i := 236) (by decide +kernel))))) (by decide +kernel)
set_option maxRecDepth 20000 in
theorem wN_X6_step : Cond.instanceMethod yX6_step ∈ T0 := mT (List.mem_append_right _ (List.mem_append_right _ (List.mem_append_left _ (List.mem_of_getElem? (i := 238) (by decide +kernel))))) (by decide +kernel)
set_option maxRecDepth 20000 in
theorem wC_X6_step : Cond.code yX6_step cX6_step 2 (some FieldType.boolean) ∈ T0 := mT (List.mem_append_right _ (List.mem_append_right _ (List.mem_append_left _ (List.mem_of_getElem? (i := 239) (by decide +kernel))))) (by decide +kernel)
set_option maxRecDepth 20000 in
theorem wM_X6_88 : Cond.methodLink RX6 88 yX6_current ∈ T0 := mT (List.mem_append_right _ (List.mem_append_right _ (List.mem_append_right _ (List.mem_of_getElem? (i := 0) (by decide +kernel))))) (by decide +kernel)
set_option maxRecDepth 20000 in
theorem wN_X6_current : Cond.instanceMethod yX6_current ∈ T0 := mT (List.mem_append_right _ (List.mem_append_right _ (List.mem_append_right _ (List.mem_of_getElem? (i := 2) (by decide +kernel))))) (by decide +kernel)
set_option maxRecDepth 20000 in
theorem wC_X6_current : Cond.code yX6_current cX6_current 2 (some FieldType.int) ∈ T0 := mT (List.mem_append_right _ (List.mem_append_right _ (List.mem_append_right _ (List.mem_of_getElem? (i := 3) (by decide +kernel))))) (by decide +kernel)
set_option maxRecDepth 20000 in
theorem wM_X6_92 : Cond.methodLink RX6 92 yX6_ready ∈ T0 := mT (List.mem_append_right _ (List.mem_append_right _ (List.mem_append_right _ (List.mem_of_getElem? (i := 4) (by decide +kernel))))) (by decide +kernel)
set_option maxRecDepth 20000 in
theorem wN_X6_ready : Cond.instanceMethod yX6_ready ∈ T0 := mT (List.mem_append_right _ (List.mem_append_right _ (List.mem_append_right _ (List.mem_of_getElem? (i := 6) (by decide +kernel))))) (by decide +kernel)
set_option maxRecDepth 20000 in
theorem wC_X6_ready : Cond.code yX6_ready cX6_ready 6 (some FieldType.int) ∈ T0 := mT (List.mem_append_right _ (List.mem_append_right _ (List.mem_append_right _ (List.mem_of_getElem? (i := 7) (by decide +kernel))))) (by decide +kernel)
set_option maxRecDepth 20000 in
theorem wM_X6_99 : Cond.methodLink RX6 99 yX6_instruction ∈ T0 := mT (List.mem_append_right _ (List.mem_append_right _ (List.mem_append_right _ (List.mem_of_getElem? (i := 8) (by decide +kernel))))) (by decide +kernel)
set_option maxRecDepth 20000 in
theorem wN_X6_instruction : Cond.instanceMethod yX6_instruction ∈ T0 := mT (List.mem_append_right _ (List.mem_append_right _ (List.mem_append_right _ (List.mem_of_getElem? (i := 10) (by decide +kernel))))) (by decide +kernel)
set_option maxRecDepth 20000 in
theorem wC_X6_instruction : Cond.code yX6_instruction cX6_instruction 7 (none : Option FieldType) ∈ T0 := mT (List.mem_append_right _ (List.mem_append_right _ (List.mem_append_right _ (List.mem_of_getElem? (i := 11) (by decide +kernel))))) (by decide +kernel)
set_option maxRecDepth 20000 in
theorem wM_X6_65 : Cond.methodLink RX6 65 yX6_push ∈ T0 := mT (List.mem_append_right _ (List.mem_append_right _ (List.mem_append_right _ (List.mem_of_getElem? (i := 12) (by decide +kernel))))) (by decide +kernel)
set_option maxRecDepth 20000 in
theorem wN_X6_push : Cond.instanceMethod yX6_push ∈ T0 := mT (List.mem_append_right _ (List.mem_append_right _ (List.mem_append_right _ (List.mem_of_getElem? (i := 14) (by decide +kernel))))) (by decide +kernel)
set_option maxRecDepth 20000 in
theorem wC_X6_push : Cond.code yX6_push cX6_push 3 (none : Option FieldType) ∈ T0 := mT (List.mem_append_right _ (List.mem_append_right _ (List.mem_append_right _ (List.mem_of_getElem? (i := 15) (by decide +kernel))))) (by decide +kernel)
set_option maxRecDepth 20000 in
theorem wM_X6_69 : Cond.methodLink RX6 69 yX6_pull ∈ T0 := mT (List.mem_append_right _ (List.mem_append_right _ (List.mem_append_right _ (List.mem_of_getElem? (i := 16) (by decide +kernel))))) (by decide +kernel)
set_option maxRecDepth 20000 in
theorem wN_X6_pull : Cond.instanceMethod yX6_pull ∈ T0 := mT (List.mem_append_right _ (List.mem_append_right _ (List.mem_append_right _ (List.mem_of_getElem? (i := 18) (by decide +kernel))))) (by decide +kernel)
set_option maxRecDepth 20000 in
theorem wC_X6_pull : Cond.code yX6_pull cX6_pull 2 (none : Option FieldType) ∈ T0 := mT (List.mem_append_right _ (List.mem_append_right _ (List.mem_append_right _ (List.mem_of_getElem? (i := 19) (by decide +kernel))))) (by decide +kernel)
set_option maxRecDepth 20000 in
theorem wM_X6_79 : Cond.methodLink RX6 79 yX6_value ∈ T0 := mT (List.mem_append_right _ (List.mem_append_right _ (List.mem_append_right _ (List.mem_of_getElem? (i := 20) (by decide +kernel))))) (by decide +kernel)
set_option maxRecDepth 20000 in
theorem wT_X6_value : Cond.static yX6_value ∈ T0 := mT (List.mem_append_right _ (List.mem_append_right _ (List.mem_append_right _ (List.mem_of_getElem? (i := 21) (by decide +kernel))))) (by decide +kernel)
set_option maxRecDepth 20000 in
theorem wC_X6_value : Cond.code yX6_value cX6_value 3 (some FieldType.int) ∈ T0 := mT (List.mem_append_right _ (List.mem_append_right _ (List.mem_append_right _ (List.mem_of_getElem? (i := 22) (by decide +kernel))))) (by decide +kernel)
set_option maxRecDepth 20000 in
theorem wM_X6_82 : Cond.methodLink RX6 82 yX6_send ∈ T0 := mT (List.mem_append_right _ (List.mem_append_right _ (List.mem_append_right _ (List.mem_of_getElem? (i := 23) (by decide +kernel))))) (by decide +kernel)
set_option maxRecDepth 20000 in
theorem wN_X6_send : Cond.instanceMethod yX6_send ∈ T0 := mT (List.mem_append_right _ (List.mem_append_right _ (List.mem_append_right _ (List.mem_of_getElem? (i := 25) (by decide +kernel))))) (by decide +kernel)
set_option maxRecDepth 20000 in
theorem wC_X6_send : Cond.code yX6_send cX6_send 5 (none : Option FieldType) ∈ T0 := mT (List.mem_append_right _ (List.mem_append_right _ (List.mem_append_right _ (List.mem_of_getElem? (i := 26) (by decide +kernel))))) (by decide +kernel)
set_option maxRecDepth 20000 in
theorem wM_X6_72 : Cond.methodLink RX6 72 yX6_tell ∈ T0 := mT (List.mem_append_right _ (List.mem_append_right _ (List.mem_append_right _ (List.mem_of_getElem? (i := 27) (by decide +kernel))))) (by decide +kernel)
set_option maxRecDepth 20000 in
theorem wN_X6_tell : Cond.instanceMethod yX6_tell ∈ T0 := mT (List.mem_append_right _ (List.mem_append_right _ (List.mem_append_right _ (List.mem_of_getElem? (i := 29) (by decide +kernel))))) (by decide +kernel)
set_option maxRecDepth 20000 in
theorem wC_X6_tell : Cond.code yX6_tell cX6_tell 6 (none : Option FieldType) ∈ T0 := mT (List.mem_append_right _ (List.mem_append_right _ (List.mem_append_right _ (List.mem_of_getElem? (i := 30) (by decide +kernel))))) (by decide +kernel)
set_option maxRecDepth 20000 in
theorem wM_X6_85 : Cond.methodLink RX6 85 yX6_receive ∈ T0 := mT (List.mem_append_right _ (List.mem_append_right _ (List.mem_append_right _ (List.mem_of_getElem? (i := 31) (by decide +kernel))))) (by decide +kernel)
set_option maxRecDepth 20000 in
theorem wN_X6_receive : Cond.instanceMethod yX6_receive ∈ T0 := mT (List.mem_append_right _ (List.mem_append_right _ (List.mem_append_right _ (List.mem_of_getElem? (i := 33) (by decide +kernel))))) (by decide +kernel)
set_option maxRecDepth 20000 in
theorem wC_X6_receive : Cond.code yX6_receive cX6_receive 4 (none : Option FieldType) ∈ T0 := mT (List.mem_append_right _ (List.mem_append_right _ (List.mem_append_right _ (List.mem_of_getElem? (i := 34) (by decide +kernel))))) (by decide +kernel)
set_option maxRecDepth 20000 in
theorem wM_L_41 : Cond.methodLink RL 41 yX6_clock ∈ T0 := mT (List.mem_append_right _ (List.mem_append_right _ (List.mem_append_right _ (List.mem_of_getElem? (i := 35) (by decide +kernel))))) (by decide +kernel)
set_option maxRecDepth 20000 in
theorem wN_X6_clock : Cond.instanceMethod yX6_clock ∈ T0 := mT (List.mem_append_right _ (List.mem_append_right _ (List.mem_append_right _ (List.mem_of_getElem? (i := 36) (by decide +kernel))))) (by decide +kernel)
set_option maxRecDepth 20000 in
theorem wS_X6_clock : Cond.selects RX6 yX6_clock yX6_clock ∈ T0 := mT (List.mem_append_right _ (List.mem_append_right _ (List.mem_append_right _ (List.mem_of_getElem? (i := 37) (by decide +kernel))))) (by decide +kernel)
set_option maxRecDepth 20000 in
theorem wC_X6_clock : Cond.code yX6_clock cX6_clock 1 (some FieldType.int) ∈ T0 := mT (List.mem_append_right _ (List.mem_append_right _ (List.mem_append_right _ (List.mem_of_getElem? (i := 38) (by decide +kernel))))) (by decide +kernel)
set_option maxRecDepth 20000 in
theorem wM_L_45 : Cond.methodLink RL 45 yX6_running ∈ T0 := mT (List.mem_append_right _ (List.mem_append_right _ (List.mem_append_right _ (List.mem_of_getElem? (i := 39) (by decide +kernel))))) (by decide +kernel)
set_option maxRecDepth 20000 in
theorem wN_X6_running : Cond.instanceMethod yX6_running ∈ T0 := mT (List.mem_append_right _ (List.mem_append_right _ (List.mem_append_right _ (List.mem_of_getElem? (i := 40) (by decide +kernel))))) (by decide +kernel)
set_option maxRecDepth 20000 in
theorem wS_X6_running : Cond.selects RX6 yX6_running yX6_running ∈ T0 := mT (List.mem_append_right _ (List.mem_append_right _ (List.mem_append_right _ (List.mem_of_getElem? (i := 41) (by decide +kernel))))) (by decide +kernel)
set_option maxRecDepth 20000 in
theorem wC_X6_running : Cond.code yX6_running cX6_running 1 (some FieldType.int) ∈ T0 := mT (List.mem_append_right _ (List.mem_append_right _ (List.mem_append_right _ (List.mem_of_getElem? (i := 42) (by decide +kernel))))) (by decide +kernel)
set_option maxRecDepth 20000 in
theorem wM_L_49 : Cond.methodLink RL 49 yX6_state ∈ T0 := mT (List.mem_append_right _ (List.mem_append_right _ (List.mem_append_right _ (List.mem_of_getElem? (i := 43) (by decide +kernel))))) (by decide +kernel)
set_option maxRecDepth 20000 in
theorem wN_X6_state : Cond.instanceMethod yX6_state ∈ T0 := mT (List.mem_append_right _ (List.mem_append_right _ (List.mem_append_right _ (List.mem_of_getElem? (i := 44) (by decide +kernel))))) (by decide +kernel)
set_option maxRecDepth 20000 in
theorem wS_X6_state : Cond.selects RX6 yX6_state yX6_state ∈ T0 := mT (List.mem_append_right _ (List.mem_append_right _ (List.mem_append_right _ (List.mem_of_getElem? (i := 45) (by decide +kernel))))) (by decide +kernel)
set_option maxRecDepth 20000 in
theorem wC_X6_state : Cond.code yX6_state cX6_state 2 (some FieldType.int) ∈ T0 := mT (List.mem_append_right _ (List.mem_append_right _ (List.mem_append_right _ (List.mem_of_getElem? (i := 46) (by decide +kernel))))) (by decide +kernel)
set_option maxRecDepth 20000 in
theorem wM_L_54 : Cond.methodLink RL 54 yX6_look ∈ T0 := mT (List.mem_append_right _ (List.mem_append_right _ (List.mem_append_right _ (List.mem_of_getElem? (i := 47) (by decide +kernel))))) (by decide +kernel)
set_option maxRecDepth 20000 in
theorem wN_X6_look : Cond.instanceMethod yX6_look ∈ T0 := mT (List.mem_append_right _ (List.mem_append_right _ (List.mem_append_right _ (List.mem_of_getElem? (i := 48) (by decide +kernel))))) (by decide +kernel)
set_option maxRecDepth 20000 in
theorem wS_X6_look : Cond.selects RX6 yX6_look yX6_look ∈ T0 := mT (List.mem_append_right _ (List.mem_append_right _ (List.mem_append_right _ (List.mem_of_getElem? (i := 49) (by decide +kernel))))) (by decide +kernel)
set_option maxRecDepth 20000 in
theorem wC_X6_look : Cond.code yX6_look cX6_look 3 (some FieldType.long) ∈ T0 := mT (List.mem_append_right _ (List.mem_append_right _ (List.mem_append_right _ (List.mem_of_getElem? (i := 50) (by decide +kernel))))) (by decide +kernel)
set_option maxRecDepth 20000 in
theorem wK_X6_106 : Cond.constantLong RX6 106 4294967296 ∈ T0 := mT (List.mem_append_right _ (List.mem_append_right _ (List.mem_append_right _ (List.mem_of_getElem? (i := 51) (by decide +kernel))))) (by decide +kernel)
set_option maxRecDepth 20000 in
theorem wM_L_58 : Cond.methodLink RL 58 yX6_waiting ∈ T0 := mT (List.mem_append_right _ (List.mem_append_right _ (List.mem_append_right _ (List.mem_of_getElem? (i := 52) (by decide +kernel))))) (by decide +kernel)
set_option maxRecDepth 20000 in
theorem wN_X6_waiting : Cond.instanceMethod yX6_waiting ∈ T0 := mT (List.mem_append_right _ (List.mem_append_right _ (List.mem_append_right _ (List.mem_of_getElem? (i := 53) (by decide +kernel))))) (by decide +kernel)
set_option maxRecDepth 20000 in
theorem wS_X6_waiting : Cond.selects RX6 yX6_waiting yX6_waiting ∈ T0 := mT (List.mem_append_right _ (List.mem_append_right _ (List.mem_append_right _ (List.mem_of_getElem? (i := 54) (by decide +kernel))))) (by decide +kernel)
set_option maxRecDepth 20000 in
theorem wC_X6_waiting : Cond.code yX6_waiting cX6_waiting 3 (some FieldType.int) ∈ T0 := mT (List.mem_append_right _ (List.mem_append_right _ (List.mem_append_right _ (List.mem_of_getElem? (i := 55) (by decide +kernel))))) (by decide +kernel)
set_option maxRecDepth 20000 in
theorem wM_L_62 : Cond.methodLink RL 62 yX6_channel ∈ T0 := mT (List.mem_append_right _ (List.mem_append_right _ (List.mem_append_right _ (List.mem_of_getElem? (i := 56) (by decide +kernel))))) (by decide +kernel)
set_option maxRecDepth 20000 in
theorem wN_X6_channel : Cond.instanceMethod yX6_channel ∈ T0 := mT (List.mem_append_right _ (List.mem_append_right _ (List.mem_append_right _ (List.mem_of_getElem? (i := 57) (by decide +kernel))))) (by decide +kernel)
set_option maxRecDepth 20000 in
theorem wS_X6_channel : Cond.selects RX6 yX6_channel yX6_channel ∈ T0 := mT (List.mem_append_right _ (List.mem_append_right _ (List.mem_append_right _ (List.mem_of_getElem? (i := 58) (by decide +kernel))))) (by decide +kernel)
set_option maxRecDepth 20000 in
theorem wC_X6_channel : Cond.code yX6_channel cX6_channel 2 (some FieldType.int) ∈ T0 := mT (List.mem_append_right _ (List.mem_append_right _ (List.mem_append_right _ (List.mem_of_getElem? (i := 59) (by decide +kernel))))) (by decide +kernel)
set_option maxRecDepth 20000 in
theorem wM_L_66 : Cond.methodLink RL 66 yX6_messages ∈ T0 := mT (List.mem_append_right _ (List.mem_append_right _ (List.mem_append_right _ (List.mem_of_getElem? (i := 60) (by decide +kernel))))) (by decide +kernel)
set_option maxRecDepth 20000 in
theorem wN_X6_messages : Cond.instanceMethod yX6_messages ∈ T0 := mT (List.mem_append_right _ (List.mem_append_right _ (List.mem_append_right _ (List.mem_of_getElem? (i := 61) (by decide +kernel))))) (by decide +kernel)
set_option maxRecDepth 20000 in
theorem wS_X6_messages : Cond.selects RX6 yX6_messages yX6_messages ∈ T0 := mT (List.mem_append_right _ (List.mem_append_right _ (List.mem_append_right _ (List.mem_of_getElem? (i := 62) (by decide +kernel))))) (by decide +kernel)
set_option maxRecDepth 20000 in
theorem wC_X6_messages : Cond.code yX6_messages cX6_messages 1 (some FieldType.int) ∈ T0 := mT (List.mem_append_right _ (List.mem_append_right _ (List.mem_append_right _ (List.mem_of_getElem? (i := 63) (by decide +kernel))))) (by decide +kernel)
set_option maxRecDepth 20000 in
theorem wM_L_70 : Cond.methodLink RL 70 yX6_message ∈ T0 := mT (List.mem_append_right _ (List.mem_append_right _ (List.mem_append_right _ (List.mem_of_getElem? (i := 64) (by decide +kernel))))) (by decide +kernel)
set_option maxRecDepth 20000 in
theorem wN_X6_message : Cond.instanceMethod yX6_message ∈ T0 := mT (List.mem_append_right _ (List.mem_append_right _ (List.mem_append_right _ (List.mem_of_getElem? (i := 65) (by decide +kernel))))) (by decide +kernel)
set_option maxRecDepth 20000 in
theorem wS_X6_message : Cond.selects RX6 yX6_message yX6_message ∈ T0 := mT (List.mem_append_right _ (List.mem_append_right _ (List.mem_append_right _ (List.mem_of_getElem? (i := 66) (by decide +kernel))))) (by decide +kernel)
set_option maxRecDepth 20000 in
theorem wC_X6_message : Cond.code yX6_message cX6_message 3 (some FieldType.long) ∈ T0 := mT (List.mem_append_right _ (List.mem_append_right _ (List.mem_append_right _ (List.mem_of_getElem? (i := 67) (by decide +kernel))))) (by decide +kernel)
set_option maxRecDepth 20000 in
theorem wS_X5_startLeastFree : Cond.selects RX5 yX5_startLeastFree yX5_startLeastFree ∈ T0 := mT (List.mem_append_left _ (List.mem_of_getElem? (i := 0) (by decide +kernel))) (by decide +kernel)
set_option maxRecDepth 20000 in
theorem wS_X5_leastFree : Cond.selects RX5 yX5_leastFree yX5_leastFree ∈ T0 := mT (List.mem_append_left _ (List.mem_of_getElem? (i := 1) (by decide +kernel))) (by decide +kernel)
set_option maxRecDepth 20000 in
theorem wS_X5_becomeReady : Cond.selects RX5 yX5_becomeReady yX5_becomeReady ∈ T0 := mT (List.mem_append_left _ (List.mem_of_getElem? (i := 2) (by decide +kernel))) (by decide +kernel)
set_option maxRecDepth 20000 in
theorem wS_X5_rowOf : Cond.selects RX5 yX5_rowOf yX5_rowOf ∈ T0 := mT (List.mem_append_left _ (List.mem_of_getElem? (i := 3) (by decide +kernel))) (by decide +kernel)
set_option maxRecDepth 20000 in
theorem wS_X5_step : Cond.selects RX5 yX5_step yX5_step ∈ T0 := mT (List.mem_append_left _ (List.mem_of_getElem? (i := 4) (by decide +kernel))) (by decide +kernel)
set_option maxRecDepth 20000 in
theorem wS_X5_wakeThoseWhoseTimeHasCome : Cond.selects RX5 yX5_wakeThoseWhoseTimeHasCome yX5_wakeThoseWhoseTimeHasCome ∈ T0 := mT (List.mem_append_left _ (List.mem_of_getElem? (i := 5) (by decide +kernel))) (by decide +kernel)
set_option maxRecDepth 20000 in
theorem wS_X5_hasCome : Cond.selects RX5 yX5_hasCome yX5_hasCome ∈ T0 := mT (List.mem_append_left _ (List.mem_of_getElem? (i := 6) (by decide +kernel))) (by decide +kernel)
set_option maxRecDepth 20000 in
theorem wS_X5_giveWayToHigh : Cond.selects RX5 yX5_giveWayToHigh yX5_giveWayToHigh ∈ T0 := mT (List.mem_append_left _ (List.mem_of_getElem? (i := 7) (by decide +kernel))) (by decide +kernel)
set_option maxRecDepth 20000 in
theorem wS_X5_takeNext : Cond.selects RX5 yX5_takeNext yX5_takeNext ∈ T0 := mT (List.mem_append_left _ (List.mem_of_getElem? (i := 8) (by decide +kernel))) (by decide +kernel)
set_option maxRecDepth 20000 in
theorem wS_X5_execute : Cond.selects RX5 yX5_execute yX5_execute ∈ T0 := mT (List.mem_append_left _ (List.mem_of_getElem? (i := 9) (by decide +kernel))) (by decide +kernel)
set_option maxRecDepth 20000 in
theorem wS_X5_jump : Cond.selects RX5 yX5_jump yX5_jump ∈ T0 := mT (List.mem_append_left _ (List.mem_of_getElem? (i := 10) (by decide +kernel))) (by decide +kernel)
set_option maxRecDepth 20000 in
theorem wS_X5_jumpIfZero : Cond.selects RX5 yX5_jumpIfZero yX5_jumpIfZero ∈ T0 := mT (List.mem_append_left _ (List.mem_of_getElem? (i := 11) (by decide +kernel))) (by decide +kernel)
set_option maxRecDepth 20000 in
theorem wS_X5_channelAt : Cond.selects RX5 yX5_channelAt yX5_channelAt ∈ T0 := mT (List.mem_append_left _ (List.mem_of_getElem? (i := 12) (by decide +kernel))) (by decide +kernel)
set_option maxRecDepth 20000 in
theorem wS_X5_send : Cond.selects RX5 yX5_send yX5_send ∈ T0 := mT (List.mem_append_left _ (List.mem_of_getElem? (i := 13) (by decide +kernel))) (by decide +kernel)
set_option maxRecDepth 20000 in
theorem wS_X5_deliver : Cond.selects RX5 yX5_deliver yX5_deliver ∈ T0 := mT (List.mem_append_left _ (List.mem_of_getElem? (i := 14) (by decide +kernel))) (by decide +kernel)
set_option maxRecDepth 20000 in
theorem wS_X5_receive : Cond.selects RX5 yX5_receive yX5_receive ∈ T0 := mT (List.mem_append_left _ (List.mem_of_getElem? (i := 15) (by decide +kernel))) (by decide +kernel)
set_option maxRecDepth 20000 in
theorem wS_X5_awaitTime : Cond.selects RX5 yX5_awaitTime yX5_awaitTime ∈ T0 := mT (List.mem_append_left _ (List.mem_of_getElem? (i := 16) (by decide +kernel))) (by decide +kernel)
set_option maxRecDepth 20000 in
theorem wS_X5_compute : Cond.selects RX5 yX5_compute yX5_compute ∈ T0 := mT (List.mem_append_left _ (List.mem_of_getElem? (i := 17) (by decide +kernel))) (by decide +kernel)
set_option maxRecDepth 20000 in
theorem wS_X6_begin : Cond.selects RX6 yX6_begin yX6_begin ∈ T0 := mT (List.mem_append_left _ (List.mem_of_getElem? (i := 18) (by decide +kernel))) (by decide +kernel)
set_option maxRecDepth 20000 in
theorem wS_X6_atEnd : Cond.selects RX6 yX6_atEnd yX6_atEnd ∈ T0 := mT (List.mem_append_left _ (List.mem_of_getElem? (i := 19) (by decide +kernel))) (by decide +kernel)
set_option maxRecDepth 20000 in
theorem wS_X6_step : Cond.selects RX6 yX6_step yX6_step ∈ T0 := mT (List.mem_append_left _ (List.mem_of_getElem? (i := 20) (by decide +kernel))) (by decide +kernel)
set_option maxRecDepth 20000 in
theorem wS_X6_current : Cond.selects RX6 yX6_current yX6_current ∈ T0 := mT (List.mem_append_left _ (List.mem_of_getElem? (i := 21) (by decide +kernel))) (by decide +kernel)
set_option maxRecDepth 20000 in
theorem wS_X6_ready : Cond.selects RX6 yX6_ready yX6_ready ∈ T0 := mT (List.mem_append_left _ (List.mem_of_getElem? (i := 22) (by decide +kernel))) (by decide +kernel)
set_option maxRecDepth 20000 in
theorem wS_X6_instruction : Cond.selects RX6 yX6_instruction yX6_instruction ∈ T0 := mT (List.mem_append_left _ (List.mem_of_getElem? (i := 23) (by decide +kernel))) (by decide +kernel)
set_option maxRecDepth 20000 in
theorem wS_X6_push : Cond.selects RX6 yX6_push yX6_push ∈ T0 := mT (List.mem_append_left _ (List.mem_of_getElem? (i := 24) (by decide +kernel))) (by decide +kernel)
set_option maxRecDepth 20000 in
theorem wS_X6_pull : Cond.selects RX6 yX6_pull yX6_pull ∈ T0 := mT (List.mem_append_left _ (List.mem_of_getElem? (i := 25) (by decide +kernel))) (by decide +kernel)
set_option maxRecDepth 20000 in
theorem wS_X6_send : Cond.selects RX6 yX6_send yX6_send ∈ T0 := mT (List.mem_append_left _ (List.mem_of_getElem? (i := 26) (by decide +kernel))) (by decide +kernel)
set_option maxRecDepth 20000 in
theorem wS_X6_tell : Cond.selects RX6 yX6_tell yX6_tell ∈ T0 := mT (List.mem_append_left _ (List.mem_of_getElem? (i := 27) (by decide +kernel))) (by decide +kernel)
set_option maxRecDepth 20000 in
theorem wS_X6_receive : Cond.selects RX6 yX6_receive yX6_receive ∈ T0 := mT (List.mem_append_left _ (List.mem_of_getElem? (i := 28) (by decide +kernel))) (by decide +kernel)
