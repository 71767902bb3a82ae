/-! printed by wip/whole/names.py out of the claim: each word of the tables, by its place there -/
theorem wn_L : (Cond.initialized RL) ∈ lw_gd := List.mem_filter.mpr ⟨List.mem_append_right _ (List.mem_of_getElem? (i := 0) (by decide +kernel)), by first | rfl | decide +kernel⟩
theorem wn_X3 : (Cond.initialized RX3) ∈ lw_gd := List.mem_filter.mpr ⟨List.mem_append_right _ (List.mem_of_getElem? (i := 1) (by decide +kernel)), by first | rfl | decide +kernel⟩
theorem wn_math : (Cond.initialized "java/lang/Math") ∈ lw_gd := List.mem_filter.mpr ⟨List.mem_append_right _ (List.mem_of_getElem? (i := 2) (by decide +kernel)), by first | rfl | decide +kernel⟩
theorem wn_X2 : (Cond.initialized RX2) ∈ lw_gd := List.mem_filter.mpr ⟨List.mem_append_right _ (List.mem_of_getElem? (i := 3) (by decide +kernel)), by first | rfl | decide +kernel⟩
theorem wn_X1 : (Cond.initialized RX1) ∈ lw_gd := List.mem_filter.mpr ⟨List.mem_append_right _ (List.mem_of_getElem? (i := 4) (by decide +kernel)), by first | rfl | decide +kernel⟩
theorem wn_X0 : (Cond.initialized RX0) ∈ lw_gd := List.mem_filter.mpr ⟨List.mem_append_right _ (List.mem_of_getElem? (i := 5) (by decide +kernel)), by first | rfl | decide +kernel⟩
theorem wn_X4 : (Cond.initialized RX4) ∈ lw_gd := List.mem_filter.mpr ⟨List.mem_append_right _ (List.mem_of_getElem? (i := 6) (by decide +kernel)), by first | rfl | decide +kernel⟩
theorem wk_L_7 : (Cond.classLink RL 7 RX3) ∈ lw_gd := List.mem_filter.mpr ⟨List.mem_append_right _ (List.mem_of_getElem? (i := 7) (by decide +kernel)), by first | rfl | decide +kernel⟩
theorem wt_X3 : (Cond.instantiable RX3 9) ∈ lw_gd := List.mem_filter.mpr ⟨List.mem_append_right _ (List.mem_of_getElem? (i := 8) (by decide +kernel)), by first | rfl | decide +kernel⟩
theorem wl_L_15 : (Cond.methodLink RL 15 yX3_init) ∈ lw_gd := List.mem_filter.mpr ⟨List.mem_append_right _ (List.mem_of_getElem? (i := 9) (by decide +kernel)), by first | rfl | decide +kernel⟩
theorem wi_X3_init : (Cond.instanceMethod yX3_init) ∈ lw_gd := List.mem_filter.mpr ⟨List.mem_append_right _ (List.mem_of_getElem? (i := 10) (by decide +kernel)), by first | rfl | decide +kernel⟩
theorem wc_X3_init : (Cond.code yX3_init cX3_init 8 none) ∈ lw_gd := List.mem_filter.mpr ⟨List.mem_append_right _ (List.mem_of_getElem? (i := 11) (by decide +kernel)), by first | rfl | decide +kernel⟩
theorem wl_X3_1 : (Cond.methodLink RX3 1 objectInit) ∈ lw_gd := List.mem_filter.mpr ⟨List.mem_append_right _ (List.mem_of_getElem? (i := 12) (by decide +kernel)), by first | rfl | decide +kernel⟩
theorem wi_obj : (Cond.instanceMethod objectInit) ∈ lw_gd := List.mem_filter.mpr ⟨List.mem_append_right _ (List.mem_of_getElem? (i := 13) (by decide +kernel)), by first | rfl | decide +kernel⟩
theorem wc_obj : (Cond.code objectInit ⟨#[0xb1]⟩ 1 none) ∈ lw_gd := List.mem_filter.mpr ⟨List.mem_append_right _ (List.mem_of_getElem? (i := 14) (by decide +kernel)), by first | rfl | decide +kernel⟩
theorem wl_X3_33 : (Cond.methodLink RX3 33 yX3_nearest) ∈ lw_gd := List.mem_filter.mpr ⟨List.mem_append_right _ (List.mem_of_getElem? (i := 15) (by decide +kernel)), by first | rfl | decide +kernel⟩
theorem wst_X3_nearest : (Cond.static yX3_nearest) ∈ lw_gd := List.mem_filter.mpr ⟨List.mem_append_right _ (List.mem_of_getElem? (i := 16) (by decide +kernel)), by first | rfl | decide +kernel⟩
theorem wc_X3_nearest : (Cond.code yX3_nearest cX3_nearest 3 (some .int)) ∈ lw_gd := List.mem_filter.mpr ⟨List.mem_append_right _ (List.mem_of_getElem? (i := 17) (by decide +kernel)), by first | rfl | decide +kernel⟩
theorem wl_X3_156 : (Cond.methodLink RX3 156 Lib.Math.min.name) ∈ lw_gd := List.mem_filter.mpr ⟨List.mem_append_right _ (List.mem_of_getElem? (i := 18) (by decide +kernel)), by first | rfl | decide +kernel⟩
theorem wst_math_min : (Cond.static Lib.Math.min.name) ∈ lw_gd := List.mem_filter.mpr ⟨List.mem_append_right _ (List.mem_of_getElem? (i := 19) (by decide +kernel)), by first | rfl | decide +kernel⟩
theorem wc_math_min : (Cond.code Lib.Math.min.name Lib.Math.min.code 2 (some .int)) ∈ lw_gd := List.mem_filter.mpr ⟨List.mem_append_right _ (List.mem_of_getElem? (i := 20) (by decide +kernel)), by first | rfl | decide +kernel⟩
theorem wl_X3_161 : (Cond.methodLink RX3 161 Lib.Math.max.name) ∈ lw_gd := List.mem_filter.mpr ⟨List.mem_append_right _ (List.mem_of_getElem? (i := 21) (by decide +kernel)), by first | rfl | decide +kernel⟩
theorem wst_math_max : (Cond.static Lib.Math.max.name) ∈ lw_gd := List.mem_filter.mpr ⟨List.mem_append_right _ (List.mem_of_getElem? (i := 22) (by decide +kernel)), by first | rfl | decide +kernel⟩
theorem wc_math_max : (Cond.code Lib.Math.max.name Lib.Math.max.code 2 (some .int)) ∈ lw_gd := List.mem_filter.mpr ⟨List.mem_append_right _ (List.mem_of_getElem? (i := 23) (by decide +kernel)), by first | rfl | decide +kernel⟩
theorem wk_X3_37 : (Cond.classLink RX3 37 RX2) ∈ lw_gd := List.mem_filter.mpr ⟨List.mem_append_right _ (List.mem_of_getElem? (i := 24) (by decide +kernel)), by first | rfl | decide +kernel⟩
theorem wo_X2 : (Cond.arrayOver (.object RX2)) ∈ lw_tbl := List.mem_append_right _ (List.mem_of_getElem? (i := 25) (by decide +kernel))
theorem wt_X2 : (Cond.instantiable RX2 11) ∈ lw_gd := List.mem_filter.mpr ⟨List.mem_append_right _ (List.mem_of_getElem? (i := 26) (by decide +kernel)), by first | rfl | decide +kernel⟩
theorem wl_X3_43 : (Cond.methodLink RX3 43 yX2_init) ∈ lw_gd := List.mem_filter.mpr ⟨List.mem_append_right _ (List.mem_of_getElem? (i := 27) (by decide +kernel)), by first | rfl | decide +kernel⟩
theorem wi_X2_init : (Cond.instanceMethod yX2_init) ∈ lw_gd := List.mem_filter.mpr ⟨List.mem_append_right _ (List.mem_of_getElem? (i := 28) (by decide +kernel)), by first | rfl | decide +kernel⟩
theorem wc_X2_init : (Cond.code yX2_init cX2_init 3 none) ∈ lw_gd := List.mem_filter.mpr ⟨List.mem_append_right _ (List.mem_of_getElem? (i := 29) (by decide +kernel)), by first | rfl | decide +kernel⟩
theorem wl_X2_3 : (Cond.methodLink RX2 3 objectInit) ∈ lw_gd := List.mem_filter.mpr ⟨List.mem_append_right _ (List.mem_of_getElem? (i := 30) (by decide +kernel)), by first | rfl | decide +kernel⟩
theorem wk_X2_39 : (Cond.classLink RX2 39 RX1) ∈ lw_gd := List.mem_filter.mpr ⟨List.mem_append_right _ (List.mem_of_getElem? (i := 31) (by decide +kernel)), by first | rfl | decide +kernel⟩
theorem wt_X1 : (Cond.instantiable RX1 2) ∈ lw_gd := List.mem_filter.mpr ⟨List.mem_append_right _ (List.mem_of_getElem? (i := 32) (by decide +kernel)), by first | rfl | decide +kernel⟩
theorem wl_X2_41 : (Cond.methodLink RX2 41 yX1_init) ∈ lw_gd := List.mem_filter.mpr ⟨List.mem_append_right _ (List.mem_of_getElem? (i := 33) (by decide +kernel)), by first | rfl | decide +kernel⟩
theorem wi_X1_init : (Cond.instanceMethod yX1_init) ∈ lw_gd := List.mem_filter.mpr ⟨List.mem_append_right _ (List.mem_of_getElem? (i := 34) (by decide +kernel)), by first | rfl | decide +kernel⟩
theorem wc_X1_init : (Cond.code yX1_init cX1_init 2 none) ∈ lw_gd := List.mem_filter.mpr ⟨List.mem_append_right _ (List.mem_of_getElem? (i := 35) (by decide +kernel)), by first | rfl | decide +kernel⟩
theorem wl_X1_3 : (Cond.methodLink RX1 3 objectInit) ∈ lw_gd := List.mem_filter.mpr ⟨List.mem_append_right _ (List.mem_of_getElem? (i := 36) (by decide +kernel)), by first | rfl | decide +kernel⟩
theorem wf_X1_15 : (Cond.fieldLink RX1 15 "TaskKernel$Pile" "held" "[I") ∈ lw_gd := List.mem_filter.mpr ⟨List.mem_append_right _ (List.mem_of_getElem? (i := 37) (by decide +kernel)), by first | rfl | decide +kernel⟩
theorem wf_X1_9 : (Cond.fieldLink RX1 9 "TaskKernel$Pile" "count" "I") ∈ lw_gd := List.mem_filter.mpr ⟨List.mem_append_right _ (List.mem_of_getElem? (i := 38) (by decide +kernel)), by first | rfl | decide +kernel⟩
theorem wf_X2_51 : (Cond.fieldLink RX2 51 "TaskKernel$Pile" "count" "I") ∈ lw_gd := List.mem_filter.mpr ⟨List.mem_append_right _ (List.mem_of_getElem? (i := 39) (by decide +kernel)), by first | rfl | decide +kernel⟩
theorem wf_X3_112 : (Cond.fieldLink RX3 112 "TaskKernel$Pile" "count" "I") ∈ lw_gd := List.mem_filter.mpr ⟨List.mem_append_right _ (List.mem_of_getElem? (i := 40) (by decide +kernel)), by first | rfl | decide +kernel⟩
theorem wa_int : (Cond.arrayClass .int) ∈ lw_gd := List.mem_filter.mpr ⟨List.mem_append_right _ (List.mem_of_getElem? (i := 46) (by decide +kernel)), by first | rfl | decide +kernel⟩
theorem wf_X2_36 : (Cond.fieldLink RX2 36 "TaskKernel$Task" "number" "I") ∈ lw_gd := List.mem_filter.mpr ⟨List.mem_append_right _ (List.mem_of_getElem? (i := 47) (by decide +kernel)), by first | rfl | decide +kernel⟩
theorem wf_X3_229 : (Cond.fieldLink RX3 229 "TaskKernel$Task" "number" "I") ∈ lw_gd := List.mem_filter.mpr ⟨List.mem_append_right _ (List.mem_of_getElem? (i := 48) (by decide +kernel)), by first | rfl | decide +kernel⟩
theorem wf_X2_44 : (Cond.fieldLink RX2 44 "TaskKernel$Task" "numbers" "LTaskKernel$Pile;") ∈ lw_gd := List.mem_filter.mpr ⟨List.mem_append_right _ (List.mem_of_getElem? (i := 49) (by decide +kernel)), by first | rfl | decide +kernel⟩
theorem wf_X3_108 : (Cond.fieldLink RX3 108 "TaskKernel$Task" "numbers" "LTaskKernel$Pile;") ∈ lw_gd := List.mem_filter.mpr ⟨List.mem_append_right _ (List.mem_of_getElem? (i := 50) (by decide +kernel)), by first | rfl | decide +kernel⟩
theorem wf_X2_48 : (Cond.fieldLink RX2 48 "TaskKernel$Task" "frames" "LTaskKernel$Pile;") ∈ lw_gd := List.mem_filter.mpr ⟨List.mem_append_right _ (List.mem_of_getElem? (i := 51) (by decide +kernel)), by first | rfl | decide +kernel⟩
theorem wf_X3_117 : (Cond.fieldLink RX3 117 "TaskKernel$Task" "frames" "LTaskKernel$Pile;") ∈ lw_gd := List.mem_filter.mpr ⟨List.mem_append_right _ (List.mem_of_getElem? (i := 52) (by decide +kernel)), by first | rfl | decide +kernel⟩
theorem wf_X2_9 : (Cond.fieldLink RX2 9 "TaskKernel$Task" "state" "I") ∈ lw_gd := List.mem_filter.mpr ⟨List.mem_append_right _ (List.mem_of_getElem? (i := 53) (by decide +kernel)), by first | rfl | decide +kernel⟩
theorem wf_X3_71 : (Cond.fieldLink RX3 71 "TaskKernel$Task" "state" "I") ∈ lw_gd := List.mem_filter.mpr ⟨List.mem_append_right _ (List.mem_of_getElem? (i := 54) (by decide +kernel)), by first | rfl | decide +kernel⟩
theorem wf_X2_15 : (Cond.fieldLink RX2 15 "TaskKernel$Task" "place" "I") ∈ lw_gd := List.mem_filter.mpr ⟨List.mem_append_right _ (List.mem_of_getElem? (i := 55) (by decide +kernel)), by first | rfl | decide +kernel⟩
theorem wf_X3_102 : (Cond.fieldLink RX3 102 "TaskKernel$Task" "place" "I") ∈ lw_gd := List.mem_filter.mpr ⟨List.mem_append_right _ (List.mem_of_getElem? (i := 56) (by decide +kernel)), by first | rfl | decide +kernel⟩
theorem wf_X2_18 : (Cond.fieldLink RX2 18 "TaskKernel$Task" "priority" "I") ∈ lw_gd := List.mem_filter.mpr ⟨List.mem_append_right _ (List.mem_of_getElem? (i := 57) (by decide +kernel)), by first | rfl | decide +kernel⟩
theorem wf_X3_105 : (Cond.fieldLink RX3 105 "TaskKernel$Task" "priority" "I") ∈ lw_gd := List.mem_filter.mpr ⟨List.mem_append_right _ (List.mem_of_getElem? (i := 58) (by decide +kernel)), by first | rfl | decide +kernel⟩
theorem wf_X2_21 : (Cond.fieldLink RX2 21 "TaskKernel$Task" "ticket" "I") ∈ lw_gd := List.mem_filter.mpr ⟨List.mem_append_right _ (List.mem_of_getElem? (i := 59) (by decide +kernel)), by first | rfl | decide +kernel⟩
theorem wf_X3_164 : (Cond.fieldLink RX3 164 "TaskKernel$Task" "ticket" "I") ∈ lw_gd := List.mem_filter.mpr ⟨List.mem_append_right _ (List.mem_of_getElem? (i := 60) (by decide +kernel)), by first | rfl | decide +kernel⟩
theorem wf_X2_24 : (Cond.fieldLink RX2 24 "TaskKernel$Task" "wakesAt" "I") ∈ lw_gd := List.mem_filter.mpr ⟨List.mem_append_right _ (List.mem_of_getElem? (i := 61) (by decide +kernel)), by first | rfl | decide +kernel⟩
theorem wf_X3_120 : (Cond.fieldLink RX3 120 "TaskKernel$Task" "wakesAt" "I") ∈ lw_gd := List.mem_filter.mpr ⟨List.mem_append_right _ (List.mem_of_getElem? (i := 62) (by decide +kernel)), by first | rfl | decide +kernel⟩
theorem wf_X2_27 : (Cond.fieldLink RX2 27 "TaskKernel$Task" "waitsAt" "I") ∈ lw_gd := List.mem_filter.mpr ⟨List.mem_append_right _ (List.mem_of_getElem? (i := 63) (by decide +kernel)), by first | rfl | decide +kernel⟩
theorem wf_X3_123 : (Cond.fieldLink RX3 123 "TaskKernel$Task" "waitsAt" "I") ∈ lw_gd := List.mem_filter.mpr ⟨List.mem_append_right _ (List.mem_of_getElem? (i := 64) (by decide +kernel)), by first | rfl | decide +kernel⟩
theorem wf_X2_30 : (Cond.fieldLink RX2 30 "TaskKernel$Task" "carries" "I") ∈ lw_gd := List.mem_filter.mpr ⟨List.mem_append_right _ (List.mem_of_getElem? (i := 65) (by decide +kernel)), by first | rfl | decide +kernel⟩
theorem wf_X3_252 : (Cond.fieldLink RX3 252 "TaskKernel$Task" "carries" "I") ∈ lw_gd := List.mem_filter.mpr ⟨List.mem_append_right _ (List.mem_of_getElem? (i := 66) (by decide +kernel)), by first | rfl | decide +kernel⟩
theorem wf_X2_33 : (Cond.fieldLink RX2 33 "TaskKernel$Task" "reason" "I") ∈ lw_gd := List.mem_filter.mpr ⟨List.mem_append_right _ (List.mem_of_getElem? (i := 67) (by decide +kernel)), by first | rfl | decide +kernel⟩
theorem wf_X3_153 : (Cond.fieldLink RX3 153 "TaskKernel$Task" "reason" "I") ∈ lw_gd := List.mem_filter.mpr ⟨List.mem_append_right _ (List.mem_of_getElem? (i := 68) (by decide +kernel)), by first | rfl | decide +kernel⟩
theorem wk_X3_46 : (Cond.classLink RX3 46 RX0) ∈ lw_gd := List.mem_filter.mpr ⟨List.mem_append_right _ (List.mem_of_getElem? (i := 92) (by decide +kernel)), by first | rfl | decide +kernel⟩
theorem wo_X0 : (Cond.arrayOver (.object RX0)) ∈ lw_tbl := List.mem_append_right _ (List.mem_of_getElem? (i := 93) (by decide +kernel))
theorem wt_X0 : (Cond.instantiable RX0 3) ∈ lw_gd := List.mem_filter.mpr ⟨List.mem_append_right _ (List.mem_of_getElem? (i := 94) (by decide +kernel)), by first | rfl | decide +kernel⟩
theorem wl_X3_52 : (Cond.methodLink RX3 52 yX0_init) ∈ lw_gd := List.mem_filter.mpr ⟨List.mem_append_right _ (List.mem_of_getElem? (i := 95) (by decide +kernel)), by first | rfl | decide +kernel⟩
theorem wi_X0_init : (Cond.instanceMethod yX0_init) ∈ lw_gd := List.mem_filter.mpr ⟨List.mem_append_right _ (List.mem_of_getElem? (i := 96) (by decide +kernel)), by first | rfl | decide +kernel⟩
theorem wc_X0_init : (Cond.code yX0_init cX0_init 2 none) ∈ lw_gd := List.mem_filter.mpr ⟨List.mem_append_right _ (List.mem_of_getElem? (i := 97) (by decide +kernel)), by first | rfl | decide +kernel⟩
theorem wl_X0_3 : (Cond.methodLink RX0 3 objectInit) ∈ lw_gd := List.mem_filter.mpr ⟨List.mem_append_right _ (List.mem_of_getElem? (i := 98) (by decide +kernel)), by first | rfl | decide +kernel⟩
theorem wf_X0_18 : (Cond.fieldLink RX0 18 "TaskKernel$Mailbox" "held" "[I") ∈ lw_gd := List.mem_filter.mpr ⟨List.mem_append_right _ (List.mem_of_getElem? (i := 99) (by decide +kernel)), by first | rfl | decide +kernel⟩
theorem wf_X0_9 : (Cond.fieldLink RX0 9 "TaskKernel$Mailbox" "first" "I") ∈ lw_gd := List.mem_filter.mpr ⟨List.mem_append_right _ (List.mem_of_getElem? (i := 100) (by decide +kernel)), by first | rfl | decide +kernel⟩
theorem wf_X0_15 : (Cond.fieldLink RX0 15 "TaskKernel$Mailbox" "count" "I") ∈ lw_gd := List.mem_filter.mpr ⟨List.mem_append_right _ (List.mem_of_getElem? (i := 101) (by decide +kernel)), by first | rfl | decide +kernel⟩
theorem wf_X3_136 : (Cond.fieldLink RX3 136 "TaskKernel$Mailbox" "count" "I") ∈ lw_gd := List.mem_filter.mpr ⟨List.mem_append_right _ (List.mem_of_getElem? (i := 102) (by decide +kernel)), by first | rfl | decide +kernel⟩
theorem wf_X3_39 : (Cond.fieldLink RX3 39 "TaskKernel" "tasks" "[LTaskKernel$Task;") ∈ lw_gd := List.mem_filter.mpr ⟨List.mem_append_right _ (List.mem_of_getElem? (i := 110) (by decide +kernel)), by first | rfl | decide +kernel⟩
theorem wf_X3_48 : (Cond.fieldLink RX3 48 "TaskKernel" "mailboxes" "[LTaskKernel$Mailbox;") ∈ lw_gd := List.mem_filter.mpr ⟨List.mem_append_right _ (List.mem_of_getElem? (i := 111) (by decide +kernel)), by first | rfl | decide +kernel⟩
theorem wf_X3_9 : (Cond.fieldLink RX3 9 "TaskKernel" "code" "[I") ∈ lw_gd := List.mem_filter.mpr ⟨List.mem_append_right _ (List.mem_of_getElem? (i := 112) (by decide +kernel)), by first | rfl | decide +kernel⟩
theorem wf_X3_13 : (Cond.fieldLink RX3 13 "TaskKernel" "cells" "[I") ∈ lw_gd := List.mem_filter.mpr ⟨List.mem_append_right _ (List.mem_of_getElem? (i := 113) (by decide +kernel)), by first | rfl | decide +kernel⟩
theorem wf_X3_16 : (Cond.fieldLink RX3 16 "TaskKernel" "outs" "[I") ∈ lw_gd := List.mem_filter.mpr ⟨List.mem_append_right _ (List.mem_of_getElem? (i := 114) (by decide +kernel)), by first | rfl | decide +kernel⟩
theorem wf_X3_19 : (Cond.fieldLink RX3 19 "TaskKernel" "outCount" "I") ∈ lw_gd := List.mem_filter.mpr ⟨List.mem_append_right _ (List.mem_of_getElem? (i := 115) (by decide +kernel)), by first | rfl | decide +kernel⟩
theorem wf_X3_23 : (Cond.fieldLink RX3 23 "TaskKernel" "now" "I") ∈ lw_gd := List.mem_filter.mpr ⟨List.mem_append_right _ (List.mem_of_getElem? (i := 116) (by decide +kernel)), by first | rfl | decide +kernel⟩
theorem wf_X3_26 : (Cond.fieldLink RX3 26 "TaskKernel" "tickets" "I") ∈ lw_gd := List.mem_filter.mpr ⟨List.mem_append_right _ (List.mem_of_getElem? (i := 117) (by decide +kernel)), by first | rfl | decide +kernel⟩
theorem wf_X3_29 : (Cond.fieldLink RX3 29 "TaskKernel" "spawned" "Z") ∈ lw_gd := List.mem_filter.mpr ⟨List.mem_append_right _ (List.mem_of_getElem? (i := 118) (by decide +kernel)), by first | rfl | decide +kernel⟩
theorem wl_L_21 : (Cond.methodLink RL 21 yX3_poke) ∈ lw_gd := List.mem_filter.mpr ⟨List.mem_append_right _ (List.mem_of_getElem? (i := 138) (by decide +kernel)), by first | rfl | decide +kernel⟩
theorem wi_X3_poke : (Cond.instanceMethod yX3_poke) ∈ lw_gd := List.mem_filter.mpr ⟨List.mem_append_right _ (List.mem_of_getElem? (i := 139) (by decide +kernel)), by first | rfl | decide +kernel⟩
theorem wse_X3_poke : (Cond.selects RX3 yX3_poke yX3_poke) ∈ lw_gd := List.mem_filter.mpr ⟨List.mem_append_right _ (List.mem_of_getElem? (i := 140) (by decide +kernel)), by first | rfl | decide +kernel⟩
theorem wc_X3_poke : (Cond.code yX3_poke cX3_poke 3 (some .boolean)) ∈ lw_gd := List.mem_filter.mpr ⟨List.mem_append_right _ (List.mem_of_getElem? (i := 141) (by decide +kernel)), by first | rfl | decide +kernel⟩
theorem wl_X3_55 : (Cond.methodLink RX3 55 yX3_isCodePlace) ∈ lw_gd := List.mem_filter.mpr ⟨List.mem_append_right _ (List.mem_of_getElem? (i := 142) (by decide +kernel)), by first | rfl | decide +kernel⟩
theorem wst_X3_isCodePlace : (Cond.static yX3_isCodePlace) ∈ lw_gd := List.mem_filter.mpr ⟨List.mem_append_right _ (List.mem_of_getElem? (i := 143) (by decide +kernel)), by first | rfl | decide +kernel⟩
theorem wc_X3_isCodePlace : (Cond.code yX3_isCodePlace cX3_isCodePlace 1 (some .boolean)) ∈ lw_gd := List.mem_filter.mpr ⟨List.mem_append_right _ (List.mem_of_getElem? (i := 144) (by decide +kernel)), by first | rfl | decide +kernel⟩
theorem wl_L_26 : (Cond.methodLink RL 26 yX3_spawn) ∈ lw_gd := List.mem_filter.mpr ⟨List.mem_append_right _ (List.mem_of_getElem? (i := 145) (by decide +kernel)), by first | rfl | decide +kernel⟩
theorem wi_X3_spawn : (Cond.instanceMethod yX3_spawn) ∈ lw_gd := List.mem_filter.mpr ⟨List.mem_append_right _ (List.mem_of_getElem? (i := 146) (by decide +kernel)), by first | rfl | decide +kernel⟩
theorem wse_X3_spawn : (Cond.selects RX3 yX3_spawn yX3_spawn) ∈ lw_gd := List.mem_filter.mpr ⟨List.mem_append_right _ (List.mem_of_getElem? (i := 147) (by decide +kernel)), by first | rfl | decide +kernel⟩
theorem wc_X3_spawn : (Cond.code yX3_spawn cX3_spawn 4 (some .int)) ∈ lw_gd := List.mem_filter.mpr ⟨List.mem_append_right _ (List.mem_of_getElem? (i := 148) (by decide +kernel)), by first | rfl | decide +kernel⟩
theorem wl_X3_59 : (Cond.methodLink RX3 59 yX3_beginLeastFree) ∈ lw_gd := List.mem_filter.mpr ⟨List.mem_append_right _ (List.mem_of_getElem? (i := 149) (by decide +kernel)), by first | rfl | decide +kernel⟩
theorem wi_X3_beginLeastFree : (Cond.instanceMethod yX3_beginLeastFree) ∈ lw_gd := List.mem_filter.mpr ⟨List.mem_append_right _ (List.mem_of_getElem? (i := 151) (by decide +kernel)), by first | rfl | decide +kernel⟩
theorem wc_X3_beginLeastFree : (Cond.code yX3_beginLeastFree cX3_beginLeastFree 4 (some .int)) ∈ lw_gd := List.mem_filter.mpr ⟨List.mem_append_right _ (List.mem_of_getElem? (i := 152) (by decide +kernel)), by first | rfl | decide +kernel⟩
theorem wl_X3_167 : (Cond.methodLink RX3 167 yX2_reset) ∈ lw_gd := List.mem_filter.mpr ⟨List.mem_append_right _ (List.mem_of_getElem? (i := 153) (by decide +kernel)), by first | rfl | decide +kernel⟩
theorem wi_X2_reset : (Cond.instanceMethod yX2_reset) ∈ lw_gd := List.mem_filter.mpr ⟨List.mem_append_right _ (List.mem_of_getElem? (i := 154) (by decide +kernel)), by first | rfl | decide +kernel⟩
theorem wse_X2_reset : (Cond.selects RX2 yX2_reset yX2_reset) ∈ lw_gd := List.mem_filter.mpr ⟨List.mem_append_right _ (List.mem_of_getElem? (i := 155) (by decide +kernel)), by first | rfl | decide +kernel⟩
theorem wc_X2_reset : (Cond.code yX2_reset cX2_reset 3 none) ∈ lw_gd := List.mem_filter.mpr ⟨List.mem_append_right _ (List.mem_of_getElem? (i := 156) (by decide +kernel)), by first | rfl | decide +kernel⟩
theorem wl_X3_92 : (Cond.methodLink RX3 92 yX3_enter) ∈ lw_gd := List.mem_filter.mpr ⟨List.mem_append_right _ (List.mem_of_getElem? (i := 157) (by decide +kernel)), by first | rfl | decide +kernel⟩
theorem wi_X3_enter : (Cond.instanceMethod yX3_enter) ∈ lw_gd := List.mem_filter.mpr ⟨List.mem_append_right _ (List.mem_of_getElem? (i := 159) (by decide +kernel)), by first | rfl | decide +kernel⟩
theorem wc_X3_enter : (Cond.code yX3_enter cX3_enter 3 none) ∈ lw_gd := List.mem_filter.mpr ⟨List.mem_append_right _ (List.mem_of_getElem? (i := 160) (by decide +kernel)), by first | rfl | decide +kernel⟩
theorem wl_L_31 : (Cond.methodLink RL 31 yX3_step) ∈ lw_gd := List.mem_filter.mpr ⟨List.mem_append_right _ (List.mem_of_getElem? (i := 161) (by decide +kernel)), by first | rfl | decide +kernel⟩
theorem wi_X3_step : (Cond.instanceMethod yX3_step) ∈ lw_gd := List.mem_filter.mpr ⟨List.mem_append_right _ (List.mem_of_getElem? (i := 162) (by decide +kernel)), by first | rfl | decide +kernel⟩
theorem wse_X3_step : (Cond.selects RX3 yX3_step yX3_step) ∈ lw_gd := List.mem_filter.mpr ⟨List.mem_append_right _ (List.mem_of_getElem? (i := 163) (by decide +kernel)), by first | rfl | decide +kernel⟩
theorem wc_X3_step : (Cond.code yX3_step cX3_step 4 (some .int)) ∈ lw_gd := List.mem_filter.mpr ⟨List.mem_append_right _ (List.mem_of_getElem? (i := 164) (by decide +kernel)), by first | rfl | decide +kernel⟩
theorem wl_X3_63 : (Cond.methodLink RX3 63 yX3_next) ∈ lw_gd := List.mem_filter.mpr ⟨List.mem_append_right _ (List.mem_of_getElem? (i := 165) (by decide +kernel)), by first | rfl | decide +kernel⟩
theorem wi_X3_next : (Cond.instanceMethod yX3_next) ∈ lw_gd := List.mem_filter.mpr ⟨List.mem_append_right _ (List.mem_of_getElem? (i := 166) (by decide +kernel)), by first | rfl | decide +kernel⟩
theorem wse_X3_next : (Cond.selects RX3 yX3_next yX3_next) ∈ lw_gd := List.mem_filter.mpr ⟨List.mem_append_right _ (List.mem_of_getElem? (i := 167) (by decide +kernel)), by first | rfl | decide +kernel⟩
theorem wc_X3_next : (Cond.code yX3_next cX3_next 3 (some .int)) ∈ lw_gd := List.mem_filter.mpr ⟨List.mem_append_right _ (List.mem_of_getElem? (i := 168) (by decide +kernel)), by first | rfl | decide +kernel⟩
theorem wl_X3_129 : (Cond.methodLink RX3 129 yX2_goesBefore) ∈ lw_gd := List.mem_filter.mpr ⟨List.mem_append_right _ (List.mem_of_getElem? (i := 169) (by decide +kernel)), by first | rfl | decide +kernel⟩
theorem wi_X2_goesBefore : (Cond.instanceMethod yX2_goesBefore) ∈ lw_gd := List.mem_filter.mpr ⟨List.mem_append_right _ (List.mem_of_getElem? (i := 170) (by decide +kernel)), by first | rfl | decide +kernel⟩
theorem wse_X2_goesBefore : (Cond.selects RX2 yX2_goesBefore yX2_goesBefore) ∈ lw_gd := List.mem_filter.mpr ⟨List.mem_append_right _ (List.mem_of_getElem? (i := 171) (by decide +kernel)), by first | rfl | decide +kernel⟩
theorem wc_X2_goesBefore : (Cond.code yX2_goesBefore cX2_goesBefore 2 (some .boolean)) ∈ lw_gd := List.mem_filter.mpr ⟨List.mem_append_right _ (List.mem_of_getElem? (i := 172) (by decide +kernel)), by first | rfl | decide +kernel⟩
theorem wl_X3_67 : (Cond.methodLink RX3 67 yX3_runWord) ∈ lw_gd := List.mem_filter.mpr ⟨List.mem_append_right _ (List.mem_of_getElem? (i := 173) (by decide +kernel)), by first | rfl | decide +kernel⟩
theorem wi_X3_runWord : (Cond.instanceMethod yX3_runWord) ∈ lw_gd := List.mem_filter.mpr ⟨List.mem_append_right _ (List.mem_of_getElem? (i := 175) (by decide +kernel)), by first | rfl | decide +kernel⟩
theorem wc_X3_runWord : (Cond.code yX3_runWord cX3_runWord 5 (some .int)) ∈ lw_gd := List.mem_filter.mpr ⟨List.mem_append_right _ (List.mem_of_getElem? (i := 176) (by decide +kernel)), by first | rfl | decide +kernel⟩
theorem wl_X3_170 : (Cond.methodLink RX3 170 yX3_runOnNumbers) ∈ lw_gd := List.mem_filter.mpr ⟨List.mem_append_right _ (List.mem_of_getElem? (i := 177) (by decide +kernel)), by first | rfl | decide +kernel⟩
theorem wi_X3_runOnNumbers : (Cond.instanceMethod yX3_runOnNumbers) ∈ lw_gd := List.mem_filter.mpr ⟨List.mem_append_right _ (List.mem_of_getElem? (i := 179) (by decide +kernel)), by first | rfl | decide +kernel⟩
theorem wc_X3_runOnNumbers : (Cond.code yX3_runOnNumbers cX3_runOnNumbers 4 (some .int)) ∈ lw_gd := List.mem_filter.mpr ⟨List.mem_append_right _ (List.mem_of_getElem? (i := 180) (by decide +kernel)), by first | rfl | decide +kernel⟩
theorem wl_X3_78 : (Cond.methodLink RX3 78 yX3_end) ∈ lw_gd := List.mem_filter.mpr ⟨List.mem_append_right _ (List.mem_of_getElem? (i := 181) (by decide +kernel)), by first | rfl | decide +kernel⟩
theorem wst_X3_end : (Cond.static yX3_end) ∈ lw_gd := List.mem_filter.mpr ⟨List.mem_append_right _ (List.mem_of_getElem? (i := 182) (by decide +kernel)), by first | rfl | decide +kernel⟩
theorem wc_X3_end : (Cond.code yX3_end cX3_end 2 none) ∈ lw_gd := List.mem_filter.mpr ⟨List.mem_append_right _ (List.mem_of_getElem? (i := 183) (by decide +kernel)), by first | rfl | decide +kernel⟩
theorem wl_X3_180 : (Cond.methodLink RX3 180 yX2_put) ∈ lw_gd := List.mem_filter.mpr ⟨List.mem_append_right _ (List.mem_of_getElem? (i := 184) (by decide +kernel)), by first | rfl | decide +kernel⟩
theorem wi_X2_put : (Cond.instanceMethod yX2_put) ∈ lw_gd := List.mem_filter.mpr ⟨List.mem_append_right _ (List.mem_of_getElem? (i := 185) (by decide +kernel)), by first | rfl | decide +kernel⟩
theorem wse_X2_put : (Cond.selects RX2 yX2_put yX2_put) ∈ lw_gd := List.mem_filter.mpr ⟨List.mem_append_right _ (List.mem_of_getElem? (i := 186) (by decide +kernel)), by first | rfl | decide +kernel⟩
theorem wc_X2_put : (Cond.code yX2_put cX2_put 2 (some .int)) ∈ lw_gd := List.mem_filter.mpr ⟨List.mem_append_right _ (List.mem_of_getElem? (i := 187) (by decide +kernel)), by first | rfl | decide +kernel⟩
theorem wl_X2_54 : (Cond.methodLink RX2 54 yX1_push) ∈ lw_gd := List.mem_filter.mpr ⟨List.mem_append_right _ (List.mem_of_getElem? (i := 188) (by decide +kernel)), by first | rfl | decide +kernel⟩
theorem wi_X1_push : (Cond.instanceMethod yX1_push) ∈ lw_gd := List.mem_filter.mpr ⟨List.mem_append_right _ (List.mem_of_getElem? (i := 189) (by decide +kernel)), by first | rfl | decide +kernel⟩
theorem wse_X1_push : (Cond.selects RX1 yX1_push yX1_push) ∈ lw_gd := List.mem_filter.mpr ⟨List.mem_append_right _ (List.mem_of_getElem? (i := 190) (by decide +kernel)), by first | rfl | decide +kernel⟩
theorem wc_X1_push : (Cond.code yX1_push cX1_push 2 (some .boolean)) ∈ lw_gd := List.mem_filter.mpr ⟨List.mem_append_right _ (List.mem_of_getElem? (i := 191) (by decide +kernel)), by first | rfl | decide +kernel⟩
theorem wl_X3_183 : (Cond.methodLink RX3 183 yX3_copyTop) ∈ lw_gd := List.mem_filter.mpr ⟨List.mem_append_right _ (List.mem_of_getElem? (i := 192) (by decide +kernel)), by first | rfl | decide +kernel⟩
theorem wi_X3_copyTop : (Cond.instanceMethod yX3_copyTop) ∈ lw_gd := List.mem_filter.mpr ⟨List.mem_append_right _ (List.mem_of_getElem? (i := 194) (by decide +kernel)), by first | rfl | decide +kernel⟩
theorem wc_X3_copyTop : (Cond.code yX3_copyTop cX3_copyTop 2 (some .int)) ∈ lw_gd := List.mem_filter.mpr ⟨List.mem_append_right _ (List.mem_of_getElem? (i := 195) (by decide +kernel)), by first | rfl | decide +kernel⟩
theorem wl_X3_126 : (Cond.methodLink RX3 126 yX1_fromTop) ∈ lw_gd := List.mem_filter.mpr ⟨List.mem_append_right _ (List.mem_of_getElem? (i := 196) (by decide +kernel)), by first | rfl | decide +kernel⟩
theorem wi_X1_fromTop : (Cond.instanceMethod yX1_fromTop) ∈ lw_gd := List.mem_filter.mpr ⟨List.mem_append_right _ (List.mem_of_getElem? (i := 197) (by decide +kernel)), by first | rfl | decide +kernel⟩
theorem wse_X1_fromTop : (Cond.selects RX1 yX1_fromTop yX1_fromTop) ∈ lw_gd := List.mem_filter.mpr ⟨List.mem_append_right _ (List.mem_of_getElem? (i := 198) (by decide +kernel)), by first | rfl | decide +kernel⟩
theorem wc_X1_fromTop : (Cond.code yX1_fromTop cX1_fromTop 2 (some .int)) ∈ lw_gd := List.mem_filter.mpr ⟨List.mem_append_right _ (List.mem_of_getElem? (i := 199) (by decide +kernel)), by first | rfl | decide +kernel⟩
theorem wv_X1_19 : (Cond.constant RX1 19 (-2147483648)) ∈ lw_gd := List.mem_filter.mpr ⟨List.mem_append_right _ (List.mem_of_getElem? (i := 200) (by decide +kernel)), by first | rfl | decide +kernel⟩
theorem wl_X3_186 : (Cond.methodLink RX3 186 yX3_drop) ∈ lw_gd := List.mem_filter.mpr ⟨List.mem_append_right _ (List.mem_of_getElem? (i := 201) (by decide +kernel)), by first | rfl | decide +kernel⟩
theorem wi_X3_drop : (Cond.instanceMethod yX3_drop) ∈ lw_gd := List.mem_filter.mpr ⟨List.mem_append_right _ (List.mem_of_getElem? (i := 203) (by decide +kernel)), by first | rfl | decide +kernel⟩
theorem wc_X3_drop : (Cond.code yX3_drop cX3_drop 2 (some .int)) ∈ lw_gd := List.mem_filter.mpr ⟨List.mem_append_right _ (List.mem_of_getElem? (i := 204) (by decide +kernel)), by first | rfl | decide +kernel⟩
theorem wl_X3_235 : (Cond.methodLink RX3 235 yX1_pop) ∈ lw_gd := List.mem_filter.mpr ⟨List.mem_append_right _ (List.mem_of_getElem? (i := 205) (by decide +kernel)), by first | rfl | decide +kernel⟩
theorem wi_X1_pop : (Cond.instanceMethod yX1_pop) ∈ lw_gd := List.mem_filter.mpr ⟨List.mem_append_right _ (List.mem_of_getElem? (i := 206) (by decide +kernel)), by first | rfl | decide +kernel⟩
theorem wse_X1_pop : (Cond.selects RX1 yX1_pop yX1_pop) ∈ lw_gd := List.mem_filter.mpr ⟨List.mem_append_right _ (List.mem_of_getElem? (i := 207) (by decide +kernel)), by first | rfl | decide +kernel⟩
theorem wc_X1_pop : (Cond.code yX1_pop cX1_pop 1 (some .int)) ∈ lw_gd := List.mem_filter.mpr ⟨List.mem_append_right _ (List.mem_of_getElem? (i := 208) (by decide +kernel)), by first | rfl | decide +kernel⟩
theorem wl_X3_189 : (Cond.methodLink RX3 189 yX3_swap) ∈ lw_gd := List.mem_filter.mpr ⟨List.mem_append_right _ (List.mem_of_getElem? (i := 209) (by decide +kernel)), by first | rfl | decide +kernel⟩
theorem wi_X3_swap : (Cond.instanceMethod yX3_swap) ∈ lw_gd := List.mem_filter.mpr ⟨List.mem_append_right _ (List.mem_of_getElem? (i := 211) (by decide +kernel)), by first | rfl | decide +kernel⟩
theorem wc_X3_swap : (Cond.code yX3_swap cX3_swap 4 (some .int)) ∈ lw_gd := List.mem_filter.mpr ⟨List.mem_append_right _ (List.mem_of_getElem? (i := 212) (by decide +kernel)), by first | rfl | decide +kernel⟩
theorem wl_X3_238 : (Cond.methodLink RX3 238 yX1_push) ∈ lw_gd := List.mem_filter.mpr ⟨List.mem_append_right _ (List.mem_of_getElem? (i := 213) (by decide +kernel)), by first | rfl | decide +kernel⟩
theorem wl_X3_192 : (Cond.methodLink RX3 192 yX3_load) ∈ lw_gd := List.mem_filter.mpr ⟨List.mem_append_right _ (List.mem_of_getElem? (i := 214) (by decide +kernel)), by first | rfl | decide +kernel⟩
theorem wi_X3_load : (Cond.instanceMethod yX3_load) ∈ lw_gd := List.mem_filter.mpr ⟨List.mem_append_right _ (List.mem_of_getElem? (i := 216) (by decide +kernel)), by first | rfl | decide +kernel⟩
theorem wc_X3_load : (Cond.code yX3_load cX3_load 3 (some .int)) ∈ lw_gd := List.mem_filter.mpr ⟨List.mem_append_right _ (List.mem_of_getElem? (i := 217) (by decide +kernel)), by first | rfl | decide +kernel⟩
theorem wl_X3_147 : (Cond.methodLink RX3 147 yX3_isCell) ∈ lw_gd := List.mem_filter.mpr ⟨List.mem_append_right _ (List.mem_of_getElem? (i := 218) (by decide +kernel)), by first | rfl | decide +kernel⟩
theorem wst_X3_isCell : (Cond.static yX3_isCell) ∈ lw_gd := List.mem_filter.mpr ⟨List.mem_append_right _ (List.mem_of_getElem? (i := 219) (by decide +kernel)), by first | rfl | decide +kernel⟩
theorem wc_X3_isCell : (Cond.code yX3_isCell cX3_isCell 1 (some .boolean)) ∈ lw_gd := List.mem_filter.mpr ⟨List.mem_append_right _ (List.mem_of_getElem? (i := 220) (by decide +kernel)), by first | rfl | decide +kernel⟩
theorem wl_X3_195 : (Cond.methodLink RX3 195 yX3_store) ∈ lw_gd := List.mem_filter.mpr ⟨List.mem_append_right _ (List.mem_of_getElem? (i := 221) (by decide +kernel)), by first | rfl | decide +kernel⟩
theorem wi_X3_store : (Cond.instanceMethod yX3_store) ∈ lw_gd := List.mem_filter.mpr ⟨List.mem_append_right _ (List.mem_of_getElem? (i := 223) (by decide +kernel)), by first | rfl | decide +kernel⟩
theorem wc_X3_store : (Cond.code yX3_store cX3_store 3 (some .int)) ∈ lw_gd := List.mem_filter.mpr ⟨List.mem_append_right _ (List.mem_of_getElem? (i := 224) (by decide +kernel)), by first | rfl | decide +kernel⟩
theorem wl_X3_198 : (Cond.methodLink RX3 198 yX3_compute) ∈ lw_gd := List.mem_filter.mpr ⟨List.mem_append_right _ (List.mem_of_getElem? (i := 225) (by decide +kernel)), by first | rfl | decide +kernel⟩
theorem wi_X3_compute : (Cond.instanceMethod yX3_compute) ∈ lw_gd := List.mem_filter.mpr ⟨List.mem_append_right _ (List.mem_of_getElem? (i := 227) (by decide +kernel)), by first | rfl | decide +kernel⟩
theorem wc_X3_compute : (Cond.code yX3_compute cX3_compute 5 (some .int)) ∈ lw_gd := List.mem_filter.mpr ⟨List.mem_append_right _ (List.mem_of_getElem? (i := 228) (by decide +kernel)), by first | rfl | decide +kernel⟩
theorem wl_X3_174 : (Cond.methodLink RX3 174 yX3_runOnItself) ∈ lw_gd := List.mem_filter.mpr ⟨List.mem_append_right _ (List.mem_of_getElem? (i := 229) (by decide +kernel)), by first | rfl | decide +kernel⟩
theorem wi_X3_runOnItself : (Cond.instanceMethod yX3_runOnItself) ∈ lw_gd := List.mem_filter.mpr ⟨List.mem_append_right _ (List.mem_of_getElem? (i := 231) (by decide +kernel)), by first | rfl | decide +kernel⟩
theorem wc_X3_runOnItself : (Cond.code yX3_runOnItself cX3_runOnItself 4 (some .int)) ∈ lw_gd := List.mem_filter.mpr ⟨List.mem_append_right _ (List.mem_of_getElem? (i := 232) (by decide +kernel)), by first | rfl | decide +kernel⟩
theorem wl_X3_202 : (Cond.methodLink RX3 202 yX3_jump) ∈ lw_gd := List.mem_filter.mpr ⟨List.mem_append_right _ (List.mem_of_getElem? (i := 233) (by decide +kernel)), by first | rfl | decide +kernel⟩
theorem wi_X3_jump : (Cond.instanceMethod yX3_jump) ∈ lw_gd := List.mem_filter.mpr ⟨List.mem_append_right _ (List.mem_of_getElem? (i := 235) (by decide +kernel)), by first | rfl | decide +kernel⟩
theorem wc_X3_jump : (Cond.code yX3_jump cX3_jump 3 (some .int)) ∈ lw_gd := List.mem_filter.mpr ⟨List.mem_append_right _ (List.mem_of_getElem? (i := 236) (by decide +kernel)), by first | rfl | decide +kernel⟩
theorem wl_X3_205 : (Cond.methodLink RX3 205 yX3_jumpIfZero) ∈ lw_gd := List.mem_filter.mpr ⟨List.mem_append_right _ (List.mem_of_getElem? (i := 237) (by decide +kernel)), by first | rfl | decide +kernel⟩
theorem wi_X3_jumpIfZero : (Cond.instanceMethod yX3_jumpIfZero) ∈ lw_gd := List.mem_filter.mpr ⟨List.mem_append_right _ (List.mem_of_getElem? (i := 239) (by decide +kernel)), by first | rfl | decide +kernel⟩
theorem wc_X3_jumpIfZero : (Cond.code yX3_jumpIfZero cX3_jumpIfZero 3 (some .int)) ∈ lw_gd := List.mem_filter.mpr ⟨List.mem_append_right _ (List.mem_of_getElem? (i := 240) (by decide +kernel)), by first | rfl | decide +kernel⟩
theorem wl_X3_208 : (Cond.methodLink RX3 208 yX3_callPlace) ∈ lw_gd := List.mem_filter.mpr ⟨List.mem_append_right _ (List.mem_of_getElem? (i := 241) (by decide +kernel)), by first | rfl | decide +kernel⟩
theorem wi_X3_callPlace : (Cond.instanceMethod yX3_callPlace) ∈ lw_gd := List.mem_filter.mpr ⟨List.mem_append_right _ (List.mem_of_getElem? (i := 243) (by decide +kernel)), by first | rfl | decide +kernel⟩
theorem wc_X3_callPlace : (Cond.code yX3_callPlace cX3_callPlace 3 (some .int)) ∈ lw_gd := List.mem_filter.mpr ⟨List.mem_append_right _ (List.mem_of_getElem? (i := 244) (by decide +kernel)), by first | rfl | decide +kernel⟩
theorem wl_X3_211 : (Cond.methodLink RX3 211 yX3_goBack) ∈ lw_gd := List.mem_filter.mpr ⟨List.mem_append_right _ (List.mem_of_getElem? (i := 245) (by decide +kernel)), by first | rfl | decide +kernel⟩
theorem wi_X3_goBack : (Cond.instanceMethod yX3_goBack) ∈ lw_gd := List.mem_filter.mpr ⟨List.mem_append_right _ (List.mem_of_getElem? (i := 247) (by decide +kernel)), by first | rfl | decide +kernel⟩
theorem wc_X3_goBack : (Cond.code yX3_goBack cX3_goBack 2 (some .int)) ∈ lw_gd := List.mem_filter.mpr ⟨List.mem_append_right _ (List.mem_of_getElem? (i := 248) (by decide +kernel)), by first | rfl | decide +kernel⟩
theorem wl_X3_214 : (Cond.methodLink RX3 214 yX3_emit) ∈ lw_gd := List.mem_filter.mpr ⟨List.mem_append_right _ (List.mem_of_getElem? (i := 249) (by decide +kernel)), by first | rfl | decide +kernel⟩
theorem wi_X3_emit : (Cond.instanceMethod yX3_emit) ∈ lw_gd := List.mem_filter.mpr ⟨List.mem_append_right _ (List.mem_of_getElem? (i := 251) (by decide +kernel)), by first | rfl | decide +kernel⟩
theorem wc_X3_emit : (Cond.code yX3_emit cX3_emit 2 (some .int)) ∈ lw_gd := List.mem_filter.mpr ⟨List.mem_append_right _ (List.mem_of_getElem? (i := 252) (by decide +kernel)), by first | rfl | decide +kernel⟩
theorem wl_X3_150 : (Cond.methodLink RX3 150 yX3_outSlot) ∈ lw_gd := List.mem_filter.mpr ⟨List.mem_append_right _ (List.mem_of_getElem? (i := 253) (by decide +kernel)), by first | rfl | decide +kernel⟩
theorem wst_X3_outSlot : (Cond.static yX3_outSlot) ∈ lw_gd := List.mem_filter.mpr ⟨List.mem_append_right _ (List.mem_of_getElem? (i := 254) (by decide +kernel)), by first | rfl | decide +kernel⟩
theorem wc_X3_outSlot : (Cond.code yX3_outSlot cX3_outSlot 1 (some .int)) ∈ lw_gd := List.mem_filter.mpr ⟨List.mem_append_right _ (List.mem_of_getElem? (i := 255) (by decide +kernel)), by first | rfl | decide +kernel⟩
theorem wl_X3_177 : (Cond.methodLink RX3 177 yX3_runWithOthers) ∈ lw_gd := List.mem_filter.mpr ⟨List.mem_append_right _ (List.mem_of_getElem? (i := 256) (by decide +kernel)), by first | rfl | decide +kernel⟩
theorem wi_X3_runWithOthers : (Cond.instanceMethod yX3_runWithOthers) ∈ lw_gd := List.mem_filter.mpr ⟨List.mem_append_right _ (List.mem_of_getElem? (i := 258) (by decide +kernel)), by first | rfl | decide +kernel⟩
theorem wc_X3_runWithOthers : (Cond.code yX3_runWithOthers cX3_runWithOthers 4 (some .int)) ∈ lw_gd := List.mem_filter.mpr ⟨List.mem_append_right _ (List.mem_of_getElem? (i := 259) (by decide +kernel)), by first | rfl | decide +kernel⟩
theorem wl_X3_217 : (Cond.methodLink RX3 217 yX3_beginOther) ∈ lw_gd := List.mem_filter.mpr ⟨List.mem_append_right _ (List.mem_of_getElem? (i := 260) (by decide +kernel)), by first | rfl | decide +kernel⟩
theorem wi_X3_beginOther : (Cond.instanceMethod yX3_beginOther) ∈ lw_gd := List.mem_filter.mpr ⟨List.mem_append_right _ (List.mem_of_getElem? (i := 262) (by decide +kernel)), by first | rfl | decide +kernel⟩
theorem wc_X3_beginOther : (Cond.code yX3_beginOther cX3_beginOther 4 (some .int)) ∈ lw_gd := List.mem_filter.mpr ⟨List.mem_append_right _ (List.mem_of_getElem? (i := 263) (by decide +kernel)), by first | rfl | decide +kernel⟩
theorem wl_X3_220 : (Cond.methodLink RX3 220 yX3_sleep) ∈ lw_gd := List.mem_filter.mpr ⟨List.mem_append_right _ (List.mem_of_getElem? (i := 264) (by decide +kernel)), by first | rfl | decide +kernel⟩
theorem wi_X3_sleep : (Cond.instanceMethod yX3_sleep) ∈ lw_gd := List.mem_filter.mpr ⟨List.mem_append_right _ (List.mem_of_getElem? (i := 266) (by decide +kernel)), by first | rfl | decide +kernel⟩
theorem wc_X3_sleep : (Cond.code yX3_sleep cX3_sleep 3 (some .int)) ∈ lw_gd := List.mem_filter.mpr ⟨List.mem_append_right _ (List.mem_of_getElem? (i := 267) (by decide +kernel)), by first | rfl | decide +kernel⟩
theorem wl_X3_223 : (Cond.methodLink RX3 223 yX3_send) ∈ lw_gd := List.mem_filter.mpr ⟨List.mem_append_right _ (List.mem_of_getElem? (i := 268) (by decide +kernel)), by first | rfl | decide +kernel⟩
theorem wi_X3_send : (Cond.instanceMethod yX3_send) ∈ lw_gd := List.mem_filter.mpr ⟨List.mem_append_right _ (List.mem_of_getElem? (i := 270) (by decide +kernel)), by first | rfl | decide +kernel⟩
theorem wc_X3_send : (Cond.code yX3_send cX3_send 5 (some .int)) ∈ lw_gd := List.mem_filter.mpr ⟨List.mem_append_right _ (List.mem_of_getElem? (i := 271) (by decide +kernel)), by first | rfl | decide +kernel⟩
theorem wl_X3_133 : (Cond.methodLink RX3 133 yX3_isQueue) ∈ lw_gd := List.mem_filter.mpr ⟨List.mem_append_right _ (List.mem_of_getElem? (i := 272) (by decide +kernel)), by first | rfl | decide +kernel⟩
theorem wi_X3_isQueue : (Cond.instanceMethod yX3_isQueue) ∈ lw_gd := List.mem_filter.mpr ⟨List.mem_append_right _ (List.mem_of_getElem? (i := 274) (by decide +kernel)), by first | rfl | decide +kernel⟩
theorem wc_X3_isQueue : (Cond.code yX3_isQueue cX3_isQueue 2 (some .boolean)) ∈ lw_gd := List.mem_filter.mpr ⟨List.mem_append_right _ (List.mem_of_getElem? (i := 275) (by decide +kernel)), by first | rfl | decide +kernel⟩
theorem wl_X3_241 : (Cond.methodLink RX3 241 yX3_firstWaiting) ∈ lw_gd := List.mem_filter.mpr ⟨List.mem_append_right _ (List.mem_of_getElem? (i := 276) (by decide +kernel)), by first | rfl | decide +kernel⟩
theorem wi_X3_firstWaiting : (Cond.instanceMethod yX3_firstWaiting) ∈ lw_gd := List.mem_filter.mpr ⟨List.mem_append_right _ (List.mem_of_getElem? (i := 278) (by decide +kernel)), by first | rfl | decide +kernel⟩
theorem wc_X3_firstWaiting : (Cond.code yX3_firstWaiting cX3_firstWaiting 6 (some (.object "TaskKernel$Task"))) ∈ lw_gd := List.mem_filter.mpr ⟨List.mem_append_right _ (List.mem_of_getElem? (i := 279) (by decide +kernel)), by first | rfl | decide +kernel⟩
theorem wl_X3_140 : (Cond.methodLink RX3 140 yX2_isWaiting) ∈ lw_gd := List.mem_filter.mpr ⟨List.mem_append_right _ (List.mem_of_getElem? (i := 280) (by decide +kernel)), by first | rfl | decide +kernel⟩
theorem wi_X2_isWaiting : (Cond.instanceMethod yX2_isWaiting) ∈ lw_gd := List.mem_filter.mpr ⟨List.mem_append_right _ (List.mem_of_getElem? (i := 281) (by decide +kernel)), by first | rfl | decide +kernel⟩
theorem wse_X2_isWaiting : (Cond.selects RX2 yX2_isWaiting yX2_isWaiting) ∈ lw_gd := List.mem_filter.mpr ⟨List.mem_append_right _ (List.mem_of_getElem? (i := 282) (by decide +kernel)), by first | rfl | decide +kernel⟩
theorem wc_X2_isWaiting : (Cond.code yX2_isWaiting cX2_isWaiting 3 (some .boolean)) ∈ lw_gd := List.mem_filter.mpr ⟨List.mem_append_right _ (List.mem_of_getElem? (i := 283) (by decide +kernel)), by first | rfl | decide +kernel⟩
theorem wl_X3_245 : (Cond.methodLink RX3 245 yX0_addLast) ∈ lw_gd := List.mem_filter.mpr ⟨List.mem_append_right _ (List.mem_of_getElem? (i := 284) (by decide +kernel)), by first | rfl | decide +kernel⟩
theorem wi_X0_addLast : (Cond.instanceMethod yX0_addLast) ∈ lw_gd := List.mem_filter.mpr ⟨List.mem_append_right _ (List.mem_of_getElem? (i := 285) (by decide +kernel)), by first | rfl | decide +kernel⟩
theorem wse_X0_addLast : (Cond.selects RX0 yX0_addLast yX0_addLast) ∈ lw_gd := List.mem_filter.mpr ⟨List.mem_append_right _ (List.mem_of_getElem? (i := 286) (by decide +kernel)), by first | rfl | decide +kernel⟩
theorem wc_X0_addLast : (Cond.code yX0_addLast cX0_addLast 2 (some .boolean)) ∈ lw_gd := List.mem_filter.mpr ⟨List.mem_append_right _ (List.mem_of_getElem? (i := 287) (by decide +kernel)), by first | rfl | decide +kernel⟩
theorem wl_X0_22 : (Cond.methodLink RX0 22 yX0_slot) ∈ lw_gd := List.mem_filter.mpr ⟨List.mem_append_right _ (List.mem_of_getElem? (i := 288) (by decide +kernel)), by first | rfl | decide +kernel⟩
theorem wi_X0_slot : (Cond.instanceMethod yX0_slot) ∈ lw_gd := List.mem_filter.mpr ⟨List.mem_append_right _ (List.mem_of_getElem? (i := 290) (by decide +kernel)), by first | rfl | decide +kernel⟩
theorem wc_X0_slot : (Cond.code yX0_slot cX0_slot 3 (some .int)) ∈ lw_gd := List.mem_filter.mpr ⟨List.mem_append_right _ (List.mem_of_getElem? (i := 291) (by decide +kernel)), by first | rfl | decide +kernel⟩
theorem wl_X3_248 : (Cond.methodLink RX3 248 yX3_waitAt) ∈ lw_gd := List.mem_filter.mpr ⟨List.mem_append_right _ (List.mem_of_getElem? (i := 292) (by decide +kernel)), by first | rfl | decide +kernel⟩
theorem wi_X3_waitAt : (Cond.instanceMethod yX3_waitAt) ∈ lw_gd := List.mem_filter.mpr ⟨List.mem_append_right _ (List.mem_of_getElem? (i := 294) (by decide +kernel)), by first | rfl | decide +kernel⟩
theorem wc_X3_waitAt : (Cond.code yX3_waitAt cX3_waitAt 4 none) ∈ lw_gd := List.mem_filter.mpr ⟨List.mem_append_right _ (List.mem_of_getElem? (i := 295) (by decide +kernel)), by first | rfl | decide +kernel⟩
theorem wl_X3_226 : (Cond.methodLink RX3 226 yX3_receive) ∈ lw_gd := List.mem_filter.mpr ⟨List.mem_append_right _ (List.mem_of_getElem? (i := 296) (by decide +kernel)), by first | rfl | decide +kernel⟩
theorem wi_X3_receive : (Cond.instanceMethod yX3_receive) ∈ lw_gd := List.mem_filter.mpr ⟨List.mem_append_right _ (List.mem_of_getElem? (i := 298) (by decide +kernel)), by first | rfl | decide +kernel⟩
theorem wc_X3_receive : (Cond.code yX3_receive cX3_receive 5 (some .int)) ∈ lw_gd := List.mem_filter.mpr ⟨List.mem_append_right _ (List.mem_of_getElem? (i := 299) (by decide +kernel)), by first | rfl | decide +kernel⟩
theorem wl_X3_255 : (Cond.methodLink RX3 255 yX1_isFull) ∈ lw_gd := List.mem_filter.mpr ⟨List.mem_append_right _ (List.mem_of_getElem? (i := 300) (by decide +kernel)), by first | rfl | decide +kernel⟩
theorem wi_X1_isFull : (Cond.instanceMethod yX1_isFull) ∈ lw_gd := List.mem_filter.mpr ⟨List.mem_append_right _ (List.mem_of_getElem? (i := 301) (by decide +kernel)), by first | rfl | decide +kernel⟩
theorem wse_X1_isFull : (Cond.selects RX1 yX1_isFull yX1_isFull) ∈ lw_gd := List.mem_filter.mpr ⟨List.mem_append_right _ (List.mem_of_getElem? (i := 302) (by decide +kernel)), by first | rfl | decide +kernel⟩
theorem wc_X1_isFull : (Cond.code yX1_isFull cX1_isFull 1 (some .boolean)) ∈ lw_gd := List.mem_filter.mpr ⟨List.mem_append_right _ (List.mem_of_getElem? (i := 303) (by decide +kernel)), by first | rfl | decide +kernel⟩
theorem wl_X3_259 : (Cond.methodLink RX3 259 yX0_removeFirst) ∈ lw_gd := List.mem_filter.mpr ⟨List.mem_append_right _ (List.mem_of_getElem? (i := 304) (by decide +kernel)), by first | rfl | decide +kernel⟩
theorem wi_X0_removeFirst : (Cond.instanceMethod yX0_removeFirst) ∈ lw_gd := List.mem_filter.mpr ⟨List.mem_append_right _ (List.mem_of_getElem? (i := 305) (by decide +kernel)), by first | rfl | decide +kernel⟩
theorem wse_X0_removeFirst : (Cond.selects RX0 yX0_removeFirst yX0_removeFirst) ∈ lw_gd := List.mem_filter.mpr ⟨List.mem_append_right _ (List.mem_of_getElem? (i := 306) (by decide +kernel)), by first | rfl | decide +kernel⟩
theorem wc_X0_removeFirst : (Cond.code yX0_removeFirst cX0_removeFirst 2 (some .int)) ∈ lw_gd := List.mem_filter.mpr ⟨List.mem_append_right _ (List.mem_of_getElem? (i := 307) (by decide +kernel)), by first | rfl | decide +kernel⟩
theorem wl_X3_232 : (Cond.methodLink RX3 232 yX3_killOther) ∈ lw_gd := List.mem_filter.mpr ⟨List.mem_append_right _ (List.mem_of_getElem? (i := 308) (by decide +kernel)), by first | rfl | decide +kernel⟩
theorem wi_X3_killOther : (Cond.instanceMethod yX3_killOther) ∈ lw_gd := List.mem_filter.mpr ⟨List.mem_append_right _ (List.mem_of_getElem? (i := 310) (by decide +kernel)), by first | rfl | decide +kernel⟩
theorem wc_X3_killOther : (Cond.code yX3_killOther cX3_killOther 3 (some .int)) ∈ lw_gd := List.mem_filter.mpr ⟨List.mem_append_right _ (List.mem_of_getElem? (i := 311) (by decide +kernel)), by first | rfl | decide +kernel⟩
theorem wl_X3_95 : (Cond.methodLink RX3 95 yX3_isLive) ∈ lw_gd := List.mem_filter.mpr ⟨List.mem_append_right _ (List.mem_of_getElem? (i := 312) (by decide +kernel)), by first | rfl | decide +kernel⟩
theorem wi_X3_isLive : (Cond.instanceMethod yX3_isLive) ∈ lw_gd := List.mem_filter.mpr ⟨List.mem_append_right _ (List.mem_of_getElem? (i := 314) (by decide +kernel)), by first | rfl | decide +kernel⟩
theorem wc_X3_isLive : (Cond.code yX3_isLive cX3_isLive 2 (some .boolean)) ∈ lw_gd := List.mem_filter.mpr ⟨List.mem_append_right _ (List.mem_of_getElem? (i := 315) (by decide +kernel)), by first | rfl | decide +kernel⟩
theorem wl_X3_98 : (Cond.methodLink RX3 98 yX3_isTask) ∈ lw_gd := List.mem_filter.mpr ⟨List.mem_append_right _ (List.mem_of_getElem? (i := 316) (by decide +kernel)), by first | rfl | decide +kernel⟩
theorem wi_X3_isTask : (Cond.instanceMethod yX3_isTask) ∈ lw_gd := List.mem_filter.mpr ⟨List.mem_append_right _ (List.mem_of_getElem? (i := 318) (by decide +kernel)), by first | rfl | decide +kernel⟩
theorem wc_X3_isTask : (Cond.code yX3_isTask cX3_isTask 2 (some .boolean)) ∈ lw_gd := List.mem_filter.mpr ⟨List.mem_append_right _ (List.mem_of_getElem? (i := 319) (by decide +kernel)), by first | rfl | decide +kernel⟩
theorem wl_X3_74 : (Cond.methodLink RX3 74 yX3_markOf) ∈ lw_gd := List.mem_filter.mpr ⟨List.mem_append_right _ (List.mem_of_getElem? (i := 320) (by decide +kernel)), by first | rfl | decide +kernel⟩
theorem wst_X3_markOf : (Cond.static yX3_markOf) ∈ lw_gd := List.mem_filter.mpr ⟨List.mem_append_right _ (List.mem_of_getElem? (i := 321) (by decide +kernel)), by first | rfl | decide +kernel⟩
theorem wc_X3_markOf : (Cond.code yX3_markOf cX3_markOf 1 (some .int)) ∈ lw_gd := List.mem_filter.mpr ⟨List.mem_append_right _ (List.mem_of_getElem? (i := 322) (by decide +kernel)), by first | rfl | decide +kernel⟩
theorem wl_L_36 : (Cond.methodLink RL 36 yX3_run) ∈ lw_gd := List.mem_filter.mpr ⟨List.mem_append_right _ (List.mem_of_getElem? (i := 323) (by decide +kernel)), by first | rfl | decide +kernel⟩
theorem wi_X3_run : (Cond.instanceMethod yX3_run) ∈ lw_gd := List.mem_filter.mpr ⟨List.mem_append_right _ (List.mem_of_getElem? (i := 324) (by decide +kernel)), by first | rfl | decide +kernel⟩
theorem wse_X3_run : (Cond.selects RX3 yX3_run yX3_run) ∈ lw_gd := List.mem_filter.mpr ⟨List.mem_append_right _ (List.mem_of_getElem? (i := 325) (by decide +kernel)), by first | rfl | decide +kernel⟩
theorem wc_X3_run : (Cond.code yX3_run cX3_run 4 (some .int)) ∈ lw_gd := List.mem_filter.mpr ⟨List.mem_append_right _ (List.mem_of_getElem? (i := 326) (by decide +kernel)), by first | rfl | decide +kernel⟩
theorem wl_X3_82 : (Cond.methodLink RX3 82 yX3_step) ∈ lw_gd := List.mem_filter.mpr ⟨List.mem_append_right _ (List.mem_of_getElem? (i := 327) (by decide +kernel)), by first | rfl | decide +kernel⟩
theorem wl_X3_85 : (Cond.methodLink RX3 85 yX3_tellsAnEnd) ∈ lw_gd := List.mem_filter.mpr ⟨List.mem_append_right _ (List.mem_of_getElem? (i := 328) (by decide +kernel)), by first | rfl | decide +kernel⟩
theorem wst_X3_tellsAnEnd : (Cond.static yX3_tellsAnEnd) ∈ lw_gd := List.mem_filter.mpr ⟨List.mem_append_right _ (List.mem_of_getElem? (i := 329) (by decide +kernel)), by first | rfl | decide +kernel⟩
theorem wc_X3_tellsAnEnd : (Cond.code yX3_tellsAnEnd cX3_tellsAnEnd 1 (some .boolean)) ∈ lw_gd := List.mem_filter.mpr ⟨List.mem_append_right _ (List.mem_of_getElem? (i := 330) (by decide +kernel)), by first | rfl | decide +kernel⟩
theorem wl_L_41 : (Cond.methodLink RL 41 yX3_tick) ∈ lw_gd := List.mem_filter.mpr ⟨List.mem_append_right _ (List.mem_of_getElem? (i := 331) (by decide +kernel)), by first | rfl | decide +kernel⟩
theorem wi_X3_tick : (Cond.instanceMethod yX3_tick) ∈ lw_gd := List.mem_filter.mpr ⟨List.mem_append_right _ (List.mem_of_getElem? (i := 332) (by decide +kernel)), by first | rfl | decide +kernel⟩
theorem wse_X3_tick : (Cond.selects RX3 yX3_tick yX3_tick) ∈ lw_gd := List.mem_filter.mpr ⟨List.mem_append_right _ (List.mem_of_getElem? (i := 333) (by decide +kernel)), by first | rfl | decide +kernel⟩
theorem wc_X3_tick : (Cond.code yX3_tick cX3_tick 3 (some .int)) ∈ lw_gd := List.mem_filter.mpr ⟨List.mem_append_right _ (List.mem_of_getElem? (i := 334) (by decide +kernel)), by first | rfl | decide +kernel⟩
theorem wl_X3_88 : (Cond.methodLink RX3 88 yX3_firstDueSleeper) ∈ lw_gd := List.mem_filter.mpr ⟨List.mem_append_right _ (List.mem_of_getElem? (i := 335) (by decide +kernel)), by first | rfl | decide +kernel⟩
theorem wi_X3_firstDueSleeper : (Cond.instanceMethod yX3_firstDueSleeper) ∈ lw_gd := List.mem_filter.mpr ⟨List.mem_append_right _ (List.mem_of_getElem? (i := 337) (by decide +kernel)), by first | rfl | decide +kernel⟩
theorem wc_X3_firstDueSleeper : (Cond.code yX3_firstDueSleeper cX3_firstDueSleeper 4 (some (.object "TaskKernel$Task"))) ∈ lw_gd := List.mem_filter.mpr ⟨List.mem_append_right _ (List.mem_of_getElem? (i := 338) (by decide +kernel)), by first | rfl | decide +kernel⟩
theorem wl_L_45 : (Cond.methodLink RL 45 yX3_kill) ∈ lw_gd := List.mem_filter.mpr ⟨List.mem_append_right _ (List.mem_of_getElem? (i := 339) (by decide +kernel)), by first | rfl | decide +kernel⟩
theorem wi_X3_kill : (Cond.instanceMethod yX3_kill) ∈ lw_gd := List.mem_filter.mpr ⟨List.mem_append_right _ (List.mem_of_getElem? (i := 340) (by decide +kernel)), by first | rfl | decide +kernel⟩
theorem wse_X3_kill : (Cond.selects RX3 yX3_kill yX3_kill) ∈ lw_gd := List.mem_filter.mpr ⟨List.mem_append_right _ (List.mem_of_getElem? (i := 341) (by decide +kernel)), by first | rfl | decide +kernel⟩
theorem wc_X3_kill : (Cond.code yX3_kill cX3_kill 2 (some .boolean)) ∈ lw_gd := List.mem_filter.mpr ⟨List.mem_append_right _ (List.mem_of_getElem? (i := 342) (by decide +kernel)), by first | rfl | decide +kernel⟩
theorem wl_L_50 : (Cond.methodLink RL 50 yX3_state) ∈ lw_gd := List.mem_filter.mpr ⟨List.mem_append_right _ (List.mem_of_getElem? (i := 343) (by decide +kernel)), by first | rfl | decide +kernel⟩
theorem wi_X3_state : (Cond.instanceMethod yX3_state) ∈ lw_gd := List.mem_filter.mpr ⟨List.mem_append_right _ (List.mem_of_getElem? (i := 344) (by decide +kernel)), by first | rfl | decide +kernel⟩
theorem wse_X3_state : (Cond.selects RX3 yX3_state yX3_state) ∈ lw_gd := List.mem_filter.mpr ⟨List.mem_append_right _ (List.mem_of_getElem? (i := 345) (by decide +kernel)), by first | rfl | decide +kernel⟩
theorem wc_X3_state : (Cond.code yX3_state cX3_state 2 (some .int)) ∈ lw_gd := List.mem_filter.mpr ⟨List.mem_append_right _ (List.mem_of_getElem? (i := 346) (by decide +kernel)), by first | rfl | decide +kernel⟩
theorem wl_L_54 : (Cond.methodLink RL 54 yX3_task) ∈ lw_gd := List.mem_filter.mpr ⟨List.mem_append_right _ (List.mem_of_getElem? (i := 347) (by decide +kernel)), by first | rfl | decide +kernel⟩
theorem wi_X3_task : (Cond.instanceMethod yX3_task) ∈ lw_gd := List.mem_filter.mpr ⟨List.mem_append_right _ (List.mem_of_getElem? (i := 348) (by decide +kernel)), by first | rfl | decide +kernel⟩
theorem wse_X3_task : (Cond.selects RX3 yX3_task yX3_task) ∈ lw_gd := List.mem_filter.mpr ⟨List.mem_append_right _ (List.mem_of_getElem? (i := 349) (by decide +kernel)), by first | rfl | decide +kernel⟩
theorem wc_X3_task : (Cond.code yX3_task cX3_task 4 (some .int)) ∈ lw_gd := List.mem_filter.mpr ⟨List.mem_append_right _ (List.mem_of_getElem? (i := 350) (by decide +kernel)), by first | rfl | decide +kernel⟩
theorem wv_X3_101 : (Cond.constant RX3 101 (-2147483648)) ∈ lw_gd := List.mem_filter.mpr ⟨List.mem_append_right _ (List.mem_of_getElem? (i := 351) (by decide +kernel)), by first | rfl | decide +kernel⟩
theorem wl_L_58 : (Cond.methodLink RL 58 yX3_stack) ∈ lw_gd := List.mem_filter.mpr ⟨List.mem_append_right _ (List.mem_of_getElem? (i := 352) (by decide +kernel)), by first | rfl | decide +kernel⟩
theorem wi_X3_stack : (Cond.instanceMethod yX3_stack) ∈ lw_gd := List.mem_filter.mpr ⟨List.mem_append_right _ (List.mem_of_getElem? (i := 353) (by decide +kernel)), by first | rfl | decide +kernel⟩
theorem wse_X3_stack : (Cond.selects RX3 yX3_stack yX3_stack) ∈ lw_gd := List.mem_filter.mpr ⟨List.mem_append_right _ (List.mem_of_getElem? (i := 354) (by decide +kernel)), by first | rfl | decide +kernel⟩
theorem wc_X3_stack : (Cond.code yX3_stack cX3_stack 3 (some .int)) ∈ lw_gd := List.mem_filter.mpr ⟨List.mem_append_right _ (List.mem_of_getElem? (i := 355) (by decide +kernel)), by first | rfl | decide +kernel⟩
theorem wl_L_62 : (Cond.methodLink RL 62 yX3_next) ∈ lw_gd := List.mem_filter.mpr ⟨List.mem_append_right _ (List.mem_of_getElem? (i := 356) (by decide +kernel)), by first | rfl | decide +kernel⟩
theorem wl_L_66 : (Cond.methodLink RL 66 yX3_queue) ∈ lw_gd := List.mem_filter.mpr ⟨List.mem_append_right _ (List.mem_of_getElem? (i := 357) (by decide +kernel)), by first | rfl | decide +kernel⟩
theorem wi_X3_queue : (Cond.instanceMethod yX3_queue) ∈ lw_gd := List.mem_filter.mpr ⟨List.mem_append_right _ (List.mem_of_getElem? (i := 358) (by decide +kernel)), by first | rfl | decide +kernel⟩
theorem wse_X3_queue : (Cond.selects RX3 yX3_queue yX3_queue) ∈ lw_gd := List.mem_filter.mpr ⟨List.mem_append_right _ (List.mem_of_getElem? (i := 359) (by decide +kernel)), by first | rfl | decide +kernel⟩
theorem wc_X3_queue : (Cond.code yX3_queue cX3_queue 2 (some .int)) ∈ lw_gd := List.mem_filter.mpr ⟨List.mem_append_right _ (List.mem_of_getElem? (i := 360) (by decide +kernel)), by first | rfl | decide +kernel⟩
theorem wl_L_70 : (Cond.methodLink RL 70 yX3_queued) ∈ lw_gd := List.mem_filter.mpr ⟨List.mem_append_right _ (List.mem_of_getElem? (i := 361) (by decide +kernel)), by first | rfl | decide +kernel⟩
theorem wi_X3_queued : (Cond.instanceMethod yX3_queued) ∈ lw_gd := List.mem_filter.mpr ⟨List.mem_append_right _ (List.mem_of_getElem? (i := 362) (by decide +kernel)), by first | rfl | decide +kernel⟩
theorem wse_X3_queued : (Cond.selects RX3 yX3_queued yX3_queued) ∈ lw_gd := List.mem_filter.mpr ⟨List.mem_append_right _ (List.mem_of_getElem? (i := 363) (by decide +kernel)), by first | rfl | decide +kernel⟩
theorem wc_X3_queued : (Cond.code yX3_queued cX3_queued 3 (some .int)) ∈ lw_gd := List.mem_filter.mpr ⟨List.mem_append_right _ (List.mem_of_getElem? (i := 364) (by decide +kernel)), by first | rfl | decide +kernel⟩
theorem wl_X3_137 : (Cond.methodLink RX3 137 yX0_fromFirst) ∈ lw_gd := List.mem_filter.mpr ⟨List.mem_append_right _ (List.mem_of_getElem? (i := 365) (by decide +kernel)), by first | rfl | decide +kernel⟩
theorem wi_X0_fromFirst : (Cond.instanceMethod yX0_fromFirst) ∈ lw_gd := List.mem_filter.mpr ⟨List.mem_append_right _ (List.mem_of_getElem? (i := 366) (by decide +kernel)), by first | rfl | decide +kernel⟩
theorem wse_X0_fromFirst : (Cond.selects RX0 yX0_fromFirst yX0_fromFirst) ∈ lw_gd := List.mem_filter.mpr ⟨List.mem_append_right _ (List.mem_of_getElem? (i := 367) (by decide +kernel)), by first | rfl | decide +kernel⟩
theorem wc_X0_fromFirst : (Cond.code yX0_fromFirst cX0_fromFirst 2 (some .int)) ∈ lw_gd := List.mem_filter.mpr ⟨List.mem_append_right _ (List.mem_of_getElem? (i := 368) (by decide +kernel)), by first | rfl | decide +kernel⟩
theorem wv_X0_26 : (Cond.constant RX0 26 (-2147483648)) ∈ lw_gd := List.mem_filter.mpr ⟨List.mem_append_right _ (List.mem_of_getElem? (i := 369) (by decide +kernel)), by first | rfl | decide +kernel⟩
theorem wl_L_74 : (Cond.methodLink RL 74 yX3_waiter) ∈ lw_gd := List.mem_filter.mpr ⟨List.mem_append_right _ (List.mem_of_getElem? (i := 370) (by decide +kernel)), by first | rfl | decide +kernel⟩
theorem wi_X3_waiter : (Cond.instanceMethod yX3_waiter) ∈ lw_gd := List.mem_filter.mpr ⟨List.mem_append_right _ (List.mem_of_getElem? (i := 371) (by decide +kernel)), by first | rfl | decide +kernel⟩
theorem wse_X3_waiter : (Cond.selects RX3 yX3_waiter yX3_waiter) ∈ lw_gd := List.mem_filter.mpr ⟨List.mem_append_right _ (List.mem_of_getElem? (i := 372) (by decide +kernel)), by first | rfl | decide +kernel⟩
theorem wc_X3_waiter : (Cond.code yX3_waiter cX3_waiter 6 (some .int)) ∈ lw_gd := List.mem_filter.mpr ⟨List.mem_append_right _ (List.mem_of_getElem? (i := 373) (by decide +kernel)), by first | rfl | decide +kernel⟩
theorem wl_X3_144 : (Cond.methodLink RX3 144 yX3_countBefore) ∈ lw_gd := List.mem_filter.mpr ⟨List.mem_append_right _ (List.mem_of_getElem? (i := 374) (by decide +kernel)), by first | rfl | decide +kernel⟩
theorem wi_X3_countBefore : (Cond.instanceMethod yX3_countBefore) ∈ lw_gd := List.mem_filter.mpr ⟨List.mem_append_right _ (List.mem_of_getElem? (i := 376) (by decide +kernel)), by first | rfl | decide +kernel⟩
theorem wc_X3_countBefore : (Cond.code yX3_countBefore cX3_countBefore 4 (some .int)) ∈ lw_gd := List.mem_filter.mpr ⟨List.mem_append_right _ (List.mem_of_getElem? (i := 377) (by decide +kernel)), by first | rfl | decide +kernel⟩
theorem wl_L_79 : (Cond.methodLink RL 79 yX3_memory) ∈ lw_gd := List.mem_filter.mpr ⟨List.mem_append_right _ (List.mem_of_getElem? (i := 378) (by decide +kernel)), by first | rfl | decide +kernel⟩
theorem wi_X3_memory : (Cond.instanceMethod yX3_memory) ∈ lw_gd := List.mem_filter.mpr ⟨List.mem_append_right _ (List.mem_of_getElem? (i := 379) (by decide +kernel)), by first | rfl | decide +kernel⟩
theorem wse_X3_memory : (Cond.selects RX3 yX3_memory yX3_memory) ∈ lw_gd := List.mem_filter.mpr ⟨List.mem_append_right _ (List.mem_of_getElem? (i := 380) (by decide +kernel)), by first | rfl | decide +kernel⟩
theorem wc_X3_memory : (Cond.code yX3_memory cX3_memory 2 (some .int)) ∈ lw_gd := List.mem_filter.mpr ⟨List.mem_append_right _ (List.mem_of_getElem? (i := 381) (by decide +kernel)), by first | rfl | decide +kernel⟩
theorem wl_L_83 : (Cond.methodLink RL 83 yX3_emitted) ∈ lw_gd := List.mem_filter.mpr ⟨List.mem_append_right _ (List.mem_of_getElem? (i := 382) (by decide +kernel)), by first | rfl | decide +kernel⟩
theorem wi_X3_emitted : (Cond.instanceMethod yX3_emitted) ∈ lw_gd := List.mem_filter.mpr ⟨List.mem_append_right _ (List.mem_of_getElem? (i := 383) (by decide +kernel)), by first | rfl | decide +kernel⟩
theorem wse_X3_emitted : (Cond.selects RX3 yX3_emitted yX3_emitted) ∈ lw_gd := List.mem_filter.mpr ⟨List.mem_append_right _ (List.mem_of_getElem? (i := 384) (by decide +kernel)), by first | rfl | decide +kernel⟩
theorem wc_X3_emitted : (Cond.code yX3_emitted cX3_emitted 1 (some .int)) ∈ lw_gd := List.mem_filter.mpr ⟨List.mem_append_right _ (List.mem_of_getElem? (i := 385) (by decide +kernel)), by first | rfl | decide +kernel⟩
theorem wl_L_87 : (Cond.methodLink RL 87 yX3_out) ∈ lw_gd := List.mem_filter.mpr ⟨List.mem_append_right _ (List.mem_of_getElem? (i := 386) (by decide +kernel)), by first | rfl | decide +kernel⟩
theorem wi_X3_out : (Cond.instanceMethod yX3_out) ∈ lw_gd := List.mem_filter.mpr ⟨List.mem_append_right _ (List.mem_of_getElem? (i := 387) (by decide +kernel)), by first | rfl | decide +kernel⟩
theorem wse_X3_out : (Cond.selects RX3 yX3_out yX3_out) ∈ lw_gd := List.mem_filter.mpr ⟨List.mem_append_right _ (List.mem_of_getElem? (i := 388) (by decide +kernel)), by first | rfl | decide +kernel⟩
theorem wc_X3_out : (Cond.code yX3_out cX3_out 2 (some .int)) ∈ lw_gd := List.mem_filter.mpr ⟨List.mem_append_right _ (List.mem_of_getElem? (i := 389) (by decide +kernel)), by first | rfl | decide +kernel⟩
theorem wl_L_91 : (Cond.methodLink RL 91 yX3_why) ∈ lw_gd := List.mem_filter.mpr ⟨List.mem_append_right _ (List.mem_of_getElem? (i := 390) (by decide +kernel)), by first | rfl | decide +kernel⟩
theorem wi_X3_why : (Cond.instanceMethod yX3_why) ∈ lw_gd := List.mem_filter.mpr ⟨List.mem_append_right _ (List.mem_of_getElem? (i := 391) (by decide +kernel)), by first | rfl | decide +kernel⟩
theorem wse_X3_why : (Cond.selects RX3 yX3_why yX3_why) ∈ lw_gd := List.mem_filter.mpr ⟨List.mem_append_right _ (List.mem_of_getElem? (i := 392) (by decide +kernel)), by first | rfl | decide +kernel⟩
theorem wc_X3_why : (Cond.code yX3_why cX3_why 2 (some .int)) ∈ lw_gd := List.mem_filter.mpr ⟨List.mem_append_right _ (List.mem_of_getElem? (i := 393) (by decide +kernel)), by first | rfl | decide +kernel⟩
theorem wl_L_95 : (Cond.methodLink RL 95 yX3_clock) ∈ lw_gd := List.mem_filter.mpr ⟨List.mem_append_right _ (List.mem_of_getElem? (i := 394) (by decide +kernel)), by first | rfl | decide +kernel⟩
theorem wi_X3_clock : (Cond.instanceMethod yX3_clock) ∈ lw_gd := List.mem_filter.mpr ⟨List.mem_append_right _ (List.mem_of_getElem? (i := 395) (by decide +kernel)), by first | rfl | decide +kernel⟩
theorem wse_X3_clock : (Cond.selects RX3 yX3_clock yX3_clock) ∈ lw_gd := List.mem_filter.mpr ⟨List.mem_append_right _ (List.mem_of_getElem? (i := 396) (by decide +kernel)), by first | rfl | decide +kernel⟩
theorem wc_X3_clock : (Cond.code yX3_clock cX3_clock 1 (some .int)) ∈ lw_gd := List.mem_filter.mpr ⟨List.mem_append_right _ (List.mem_of_getElem? (i := 397) (by decide +kernel)), by first | rfl | decide +kernel⟩
theorem wl_L_9 : (Cond.methodLink RL 9 yL_cell) ∈ lw_gd := List.mem_filter.mpr ⟨List.mem_append_right _ (List.mem_of_getElem? (i := 398) (by decide +kernel)), by first | rfl | decide +kernel⟩
theorem wst_L_cell : (Cond.static yL_cell) ∈ lw_gd := List.mem_filter.mpr ⟨List.mem_append_right _ (List.mem_of_getElem? (i := 399) (by decide +kernel)), by first | rfl | decide +kernel⟩
theorem wc_L_cell : (Cond.code yL_cell cL_cell 2 (some .int)) ∈ lw_gd := List.mem_filter.mpr ⟨List.mem_append_right _ (List.mem_of_getElem? (i := 400) (by decide +kernel)), by first | rfl | decide +kernel⟩
theorem wk_L_18 : (Cond.classLink RL 18 RX4) ∈ lw_gd := List.mem_filter.mpr ⟨List.mem_append_right _ (List.mem_of_getElem? (i := 401) (by decide +kernel)), by first | rfl | decide +kernel⟩
theorem wt_X4 : (Cond.instantiable RX4 27) ∈ lw_gd := List.mem_filter.mpr ⟨List.mem_append_right _ (List.mem_of_getElem? (i := 402) (by decide +kernel)), by first | rfl | decide +kernel⟩
theorem wl_L_20 : (Cond.methodLink RL 20 yX4_init) ∈ lw_gd := List.mem_filter.mpr ⟨List.mem_append_right _ (List.mem_of_getElem? (i := 403) (by decide +kernel)), by first | rfl | decide +kernel⟩
theorem wi_X4_init : (Cond.instanceMethod yX4_init) ∈ lw_gd := List.mem_filter.mpr ⟨List.mem_append_right _ (List.mem_of_getElem? (i := 404) (by decide +kernel)), by first | rfl | decide +kernel⟩
theorem wc_X4_init : (Cond.code yX4_init cX4_init 5 none) ∈ lw_gd := List.mem_filter.mpr ⟨List.mem_append_right _ (List.mem_of_getElem? (i := 405) (by decide +kernel)), by first | rfl | decide +kernel⟩
theorem wl_X4_1 : (Cond.methodLink RX4 1 objectInit) ∈ lw_gd := List.mem_filter.mpr ⟨List.mem_append_right _ (List.mem_of_getElem? (i := 406) (by decide +kernel)), by first | rfl | decide +kernel⟩
theorem wl_X4_61 : (Cond.methodLink RX4 61 yX4_near) ∈ lw_gd := List.mem_filter.mpr ⟨List.mem_append_right _ (List.mem_of_getElem? (i := 407) (by decide +kernel)), by first | rfl | decide +kernel⟩
theorem wst_X4_near : (Cond.static yX4_near) ∈ lw_gd := List.mem_filter.mpr ⟨List.mem_append_right _ (List.mem_of_getElem? (i := 408) (by decide +kernel)), by first | rfl | decide +kernel⟩
theorem wc_X4_near : (Cond.code yX4_near cX4_near 3 (some .int)) ∈ lw_gd := List.mem_filter.mpr ⟨List.mem_append_right _ (List.mem_of_getElem? (i := 409) (by decide +kernel)), by first | rfl | decide +kernel⟩
theorem wf_X4_65 : (Cond.fieldLink RX4 65 "TaskKernelModel" "tasks" "I") ∈ lw_gd := List.mem_filter.mpr ⟨List.mem_append_right _ (List.mem_of_getElem? (i := 410) (by decide +kernel)), by first | rfl | decide +kernel⟩
theorem wf_X4_69 : (Cond.fieldLink RX4 69 "TaskKernelModel" "width" "I") ∈ lw_gd := List.mem_filter.mpr ⟨List.mem_append_right _ (List.mem_of_getElem? (i := 411) (by decide +kernel)), by first | rfl | decide +kernel⟩
theorem wf_X4_72 : (Cond.fieldLink RX4 72 "TaskKernelModel" "queues" "I") ∈ lw_gd := List.mem_filter.mpr ⟨List.mem_append_right _ (List.mem_of_getElem? (i := 412) (by decide +kernel)), by first | rfl | decide +kernel⟩
theorem wf_X4_75 : (Cond.fieldLink RX4 75 "TaskKernelModel" "room" "I") ∈ lw_gd := List.mem_filter.mpr ⟨List.mem_append_right _ (List.mem_of_getElem? (i := 413) (by decide +kernel)), by first | rfl | decide +kernel⟩
theorem wf_X4_7 : (Cond.fieldLink RX4 7 "TaskKernelModel" "code" "[I") ∈ lw_gd := List.mem_filter.mpr ⟨List.mem_append_right _ (List.mem_of_getElem? (i := 414) (by decide +kernel)), by first | rfl | decide +kernel⟩
theorem wf_X4_13 : (Cond.fieldLink RX4 13 "TaskKernelModel" "memory" "[I") ∈ lw_gd := List.mem_filter.mpr ⟨List.mem_append_right _ (List.mem_of_getElem? (i := 415) (by decide +kernel)), by first | rfl | decide +kernel⟩
theorem wf_X4_170 : (Cond.fieldLink RX4 170 "TaskKernelModel" "begun" "Z") ∈ lw_gd := List.mem_filter.mpr ⟨List.mem_append_right _ (List.mem_of_getElem? (i := 416) (by decide +kernel)), by first | rfl | decide +kernel⟩
theorem wf_X4_121 : (Cond.fieldLink RX4 121 "TaskKernelModel" "clock" "I") ∈ lw_gd := List.mem_filter.mpr ⟨List.mem_append_right _ (List.mem_of_getElem? (i := 417) (by decide +kernel)), by first | rfl | decide +kernel⟩
theorem wf_X4_78 : (Cond.fieldLink RX4 78 "TaskKernelModel" "stamp" "I") ∈ lw_gd := List.mem_filter.mpr ⟨List.mem_append_right _ (List.mem_of_getElem? (i := 418) (by decide +kernel)), by first | rfl | decide +kernel⟩
theorem wf_X4_16 : (Cond.fieldLink RX4 16 "TaskKernelModel" "state" "[I") ∈ lw_gd := List.mem_filter.mpr ⟨List.mem_append_right _ (List.mem_of_getElem? (i := 419) (by decide +kernel)), by first | rfl | decide +kernel⟩
theorem wf_X4_19 : (Cond.fieldLink RX4 19 "TaskKernelModel" "priority" "[I") ∈ lw_gd := List.mem_filter.mpr ⟨List.mem_append_right _ (List.mem_of_getElem? (i := 420) (by decide +kernel)), by first | rfl | decide +kernel⟩
theorem wf_X4_22 : (Cond.fieldLink RX4 22 "TaskKernelModel" "place" "[I") ∈ lw_gd := List.mem_filter.mpr ⟨List.mem_append_right _ (List.mem_of_getElem? (i := 421) (by decide +kernel)), by first | rfl | decide +kernel⟩
theorem wf_X4_25 : (Cond.fieldLink RX4 25 "TaskKernelModel" "depth" "[I") ∈ lw_gd := List.mem_filter.mpr ⟨List.mem_append_right _ (List.mem_of_getElem? (i := 422) (by decide +kernel)), by first | rfl | decide +kernel⟩
theorem wf_X4_28 : (Cond.fieldLink RX4 28 "TaskKernelModel" "stacks" "[I") ∈ lw_gd := List.mem_filter.mpr ⟨List.mem_append_right _ (List.mem_of_getElem? (i := 423) (by decide +kernel)), by first | rfl | decide +kernel⟩
theorem wf_X4_31 : (Cond.fieldLink RX4 31 "TaskKernelModel" "frames" "[I") ∈ lw_gd := List.mem_filter.mpr ⟨List.mem_append_right _ (List.mem_of_getElem? (i := 424) (by decide +kernel)), by first | rfl | decide +kernel⟩
theorem wf_X4_34 : (Cond.fieldLink RX4 34 "TaskKernelModel" "returns" "[I") ∈ lw_gd := List.mem_filter.mpr ⟨List.mem_append_right _ (List.mem_of_getElem? (i := 425) (by decide +kernel)), by first | rfl | decide +kernel⟩
theorem wf_X4_37 : (Cond.fieldLink RX4 37 "TaskKernelModel" "wakes" "[I") ∈ lw_gd := List.mem_filter.mpr ⟨List.mem_append_right _ (List.mem_of_getElem? (i := 426) (by decide +kernel)), by first | rfl | decide +kernel⟩
theorem wf_X4_40 : (Cond.fieldLink RX4 40 "TaskKernelModel" "waitsAt" "[I") ∈ lw_gd := List.mem_filter.mpr ⟨List.mem_append_right _ (List.mem_of_getElem? (i := 427) (by decide +kernel)), by first | rfl | decide +kernel⟩
theorem wf_X4_43 : (Cond.fieldLink RX4 43 "TaskKernelModel" "sent" "[I") ∈ lw_gd := List.mem_filter.mpr ⟨List.mem_append_right _ (List.mem_of_getElem? (i := 428) (by decide +kernel)), by first | rfl | decide +kernel⟩
theorem wf_X4_46 : (Cond.fieldLink RX4 46 "TaskKernelModel" "stamps" "[I") ∈ lw_gd := List.mem_filter.mpr ⟨List.mem_append_right _ (List.mem_of_getElem? (i := 429) (by decide +kernel)), by first | rfl | decide +kernel⟩
theorem wf_X4_49 : (Cond.fieldLink RX4 49 "TaskKernelModel" "reason" "[I") ∈ lw_gd := List.mem_filter.mpr ⟨List.mem_append_right _ (List.mem_of_getElem? (i := 430) (by decide +kernel)), by first | rfl | decide +kernel⟩
theorem wf_X4_52 : (Cond.fieldLink RX4 52 "TaskKernelModel" "size" "[I") ∈ lw_gd := List.mem_filter.mpr ⟨List.mem_append_right _ (List.mem_of_getElem? (i := 431) (by decide +kernel)), by first | rfl | decide +kernel⟩
theorem wf_X4_55 : (Cond.fieldLink RX4 55 "TaskKernelModel" "cells" "[I") ∈ lw_gd := List.mem_filter.mpr ⟨List.mem_append_right _ (List.mem_of_getElem? (i := 432) (by decide +kernel)), by first | rfl | decide +kernel⟩
theorem wf_X4_127 : (Cond.fieldLink RX4 127 "TaskKernelModel" "emissions" "I") ∈ lw_gd := List.mem_filter.mpr ⟨List.mem_append_right _ (List.mem_of_getElem? (i := 433) (by decide +kernel)), by first | rfl | decide +kernel⟩
theorem wf_X4_58 : (Cond.fieldLink RX4 58 "TaskKernelModel" "emits" "[I") ∈ lw_gd := List.mem_filter.mpr ⟨List.mem_append_right _ (List.mem_of_getElem? (i := 434) (by decide +kernel)), by first | rfl | decide +kernel⟩
theorem wf_X4_92 : (Cond.fieldLink RX4 92 "TaskKernelModel" "self" "I") ∈ lw_gd := List.mem_filter.mpr ⟨List.mem_append_right _ (List.mem_of_getElem? (i := 435) (by decide +kernel)), by first | rfl | decide +kernel⟩
theorem wf_X4_89 : (Cond.fieldLink RX4 89 "TaskKernelModel" "trap" "I") ∈ lw_gd := List.mem_filter.mpr ⟨List.mem_append_right _ (List.mem_of_getElem? (i := 436) (by decide +kernel)), by first | rfl | decide +kernel⟩
theorem wl_L_65 : (Cond.methodLink RL 65 yX4_next) ∈ lw_gd := List.mem_filter.mpr ⟨List.mem_append_right _ (List.mem_of_getElem? (i := 492) (by decide +kernel)), by first | rfl | decide +kernel⟩
theorem wi_X4_next : (Cond.instanceMethod yX4_next) ∈ lw_gd := List.mem_filter.mpr ⟨List.mem_append_right _ (List.mem_of_getElem? (i := 493) (by decide +kernel)), by first | rfl | decide +kernel⟩
theorem wse_X4_next : (Cond.selects RX4 yX4_next yX4_next) ∈ lw_gd := List.mem_filter.mpr ⟨List.mem_append_right _ (List.mem_of_getElem? (i := 494) (by decide +kernel)), by first | rfl | decide +kernel⟩
theorem wc_X4_next : (Cond.code yX4_next cX4_next 4 (some .int)) ∈ lw_gd := List.mem_filter.mpr ⟨List.mem_append_right _ (List.mem_of_getElem? (i := 495) (by decide +kernel)), by first | rfl | decide +kernel⟩
theorem wl_L_35 : (Cond.methodLink RL 35 yX4_step) ∈ lw_gd := List.mem_filter.mpr ⟨List.mem_append_right _ (List.mem_of_getElem? (i := 496) (by decide +kernel)), by first | rfl | decide +kernel⟩
theorem wi_X4_step : (Cond.instanceMethod yX4_step) ∈ lw_gd := List.mem_filter.mpr ⟨List.mem_append_right _ (List.mem_of_getElem? (i := 497) (by decide +kernel)), by first | rfl | decide +kernel⟩
theorem wse_X4_step : (Cond.selects RX4 yX4_step yX4_step) ∈ lw_gd := List.mem_filter.mpr ⟨List.mem_append_right _ (List.mem_of_getElem? (i := 498) (by decide +kernel)), by first | rfl | decide +kernel⟩
theorem wc_X4_step : (Cond.code yX4_step cX4_step 2 (some .int)) ∈ lw_gd := List.mem_filter.mpr ⟨List.mem_append_right _ (List.mem_of_getElem? (i := 499) (by decide +kernel)), by first | rfl | decide +kernel⟩
theorem wl_X4_161 : (Cond.methodLink RX4 161 yX4_next) ∈ lw_gd := List.mem_filter.mpr ⟨List.mem_append_right _ (List.mem_of_getElem? (i := 500) (by decide +kernel)), by first | rfl | decide +kernel⟩
theorem wl_X4_95 : (Cond.methodLink RX4 95 yX4_fall) ∈ lw_gd := List.mem_filter.mpr ⟨List.mem_append_right _ (List.mem_of_getElem? (i := 501) (by decide +kernel)), by first | rfl | decide +kernel⟩
theorem wi_X4_fall : (Cond.instanceMethod yX4_fall) ∈ lw_gd := List.mem_filter.mpr ⟨List.mem_append_right _ (List.mem_of_getElem? (i := 503) (by decide +kernel)), by first | rfl | decide +kernel⟩
theorem wc_X4_fall : (Cond.code yX4_fall cX4_fall 2 none) ∈ lw_gd := List.mem_filter.mpr ⟨List.mem_append_right _ (List.mem_of_getElem? (i := 504) (by decide +kernel)), by first | rfl | decide +kernel⟩
theorem wl_X4_164 : (Cond.methodLink RX4 164 yX4_perform) ∈ lw_gd := List.mem_filter.mpr ⟨List.mem_append_right _ (List.mem_of_getElem? (i := 505) (by decide +kernel)), by first | rfl | decide +kernel⟩
theorem wi_X4_perform : (Cond.instanceMethod yX4_perform) ∈ lw_gd := List.mem_filter.mpr ⟨List.mem_append_right _ (List.mem_of_getElem? (i := 507) (by decide +kernel)), by first | rfl | decide +kernel⟩
theorem wc_X4_perform : (Cond.code yX4_perform cX4_perform 3 none) ∈ lw_gd := List.mem_filter.mpr ⟨List.mem_append_right _ (List.mem_of_getElem? (i := 508) (by decide +kernel)), by first | rfl | decide +kernel⟩
theorem wl_X4_140 : (Cond.methodLink RX4 140 yX4_arithmetic) ∈ lw_gd := List.mem_filter.mpr ⟨List.mem_append_right _ (List.mem_of_getElem? (i := 509) (by decide +kernel)), by first | rfl | decide +kernel⟩
theorem wi_X4_arithmetic : (Cond.instanceMethod yX4_arithmetic) ∈ lw_gd := List.mem_filter.mpr ⟨List.mem_append_right _ (List.mem_of_getElem? (i := 511) (by decide +kernel)), by first | rfl | decide +kernel⟩
theorem wc_X4_arithmetic : (Cond.code yX4_arithmetic cX4_arithmetic 4 none) ∈ lw_gd := List.mem_filter.mpr ⟨List.mem_append_right _ (List.mem_of_getElem? (i := 512) (by decide +kernel)), by first | rfl | decide +kernel⟩
theorem wl_X4_106 : (Cond.methodLink RX4 106 yX4_take) ∈ lw_gd := List.mem_filter.mpr ⟨List.mem_append_right _ (List.mem_of_getElem? (i := 513) (by decide +kernel)), by first | rfl | decide +kernel⟩
theorem wi_X4_take : (Cond.instanceMethod yX4_take) ∈ lw_gd := List.mem_filter.mpr ⟨List.mem_append_right _ (List.mem_of_getElem? (i := 515) (by decide +kernel)), by first | rfl | decide +kernel⟩
theorem wc_X4_take : (Cond.code yX4_take cX4_take 1 (some .int)) ∈ lw_gd := List.mem_filter.mpr ⟨List.mem_append_right _ (List.mem_of_getElem? (i := 516) (by decide +kernel)), by first | rfl | decide +kernel⟩
theorem wl_X4_115 : (Cond.methodLink RX4 115 yX4_put) ∈ lw_gd := List.mem_filter.mpr ⟨List.mem_append_right _ (List.mem_of_getElem? (i := 517) (by decide +kernel)), by first | rfl | decide +kernel⟩
theorem wi_X4_put : (Cond.instanceMethod yX4_put) ∈ lw_gd := List.mem_filter.mpr ⟨List.mem_append_right _ (List.mem_of_getElem? (i := 519) (by decide +kernel)), by first | rfl | decide +kernel⟩
theorem wc_X4_put : (Cond.code yX4_put cX4_put 2 none) ∈ lw_gd := List.mem_filter.mpr ⟨List.mem_append_right _ (List.mem_of_getElem? (i := 520) (by decide +kernel)), by first | rfl | decide +kernel⟩
theorem wl_X4_99 : (Cond.methodLink RX4 99 yX4_give) ∈ lw_gd := List.mem_filter.mpr ⟨List.mem_append_right _ (List.mem_of_getElem? (i := 521) (by decide +kernel)), by first | rfl | decide +kernel⟩
theorem wi_X4_give : (Cond.instanceMethod yX4_give) ∈ lw_gd := List.mem_filter.mpr ⟨List.mem_append_right _ (List.mem_of_getElem? (i := 523) (by decide +kernel)), by first | rfl | decide +kernel⟩
theorem wc_X4_give : (Cond.code yX4_give cX4_give 3 none) ∈ lw_gd := List.mem_filter.mpr ⟨List.mem_append_right _ (List.mem_of_getElem? (i := 524) (by decide +kernel)), by first | rfl | decide +kernel⟩
theorem wl_X4_143 : (Cond.methodLink RX4 143 yX4_memoryOp) ∈ lw_gd := List.mem_filter.mpr ⟨List.mem_append_right _ (List.mem_of_getElem? (i := 525) (by decide +kernel)), by first | rfl | decide +kernel⟩
theorem wi_X4_memoryOp : (Cond.instanceMethod yX4_memoryOp) ∈ lw_gd := List.mem_filter.mpr ⟨List.mem_append_right _ (List.mem_of_getElem? (i := 527) (by decide +kernel)), by first | rfl | decide +kernel⟩
theorem wc_X4_memoryOp : (Cond.code yX4_memoryOp cX4_memoryOp 4 none) ∈ lw_gd := List.mem_filter.mpr ⟨List.mem_append_right _ (List.mem_of_getElem? (i := 528) (by decide +kernel)), by first | rfl | decide +kernel⟩
theorem wl_X4_146 : (Cond.methodLink RX4 146 yX4_jumpOp) ∈ lw_gd := List.mem_filter.mpr ⟨List.mem_append_right _ (List.mem_of_getElem? (i := 529) (by decide +kernel)), by first | rfl | decide +kernel⟩
theorem wi_X4_jumpOp : (Cond.instanceMethod yX4_jumpOp) ∈ lw_gd := List.mem_filter.mpr ⟨List.mem_append_right _ (List.mem_of_getElem? (i := 531) (by decide +kernel)), by first | rfl | decide +kernel⟩
theorem wc_X4_jumpOp : (Cond.code yX4_jumpOp cX4_jumpOp 4 none) ∈ lw_gd := List.mem_filter.mpr ⟨List.mem_append_right _ (List.mem_of_getElem? (i := 532) (by decide +kernel)), by first | rfl | decide +kernel⟩
theorem wl_X4_124 : (Cond.methodLink RX4 124 yX4_jump) ∈ lw_gd := List.mem_filter.mpr ⟨List.mem_append_right _ (List.mem_of_getElem? (i := 533) (by decide +kernel)), by first | rfl | decide +kernel⟩
theorem wi_X4_jump : (Cond.instanceMethod yX4_jump) ∈ lw_gd := List.mem_filter.mpr ⟨List.mem_append_right _ (List.mem_of_getElem? (i := 535) (by decide +kernel)), by first | rfl | decide +kernel⟩
theorem wc_X4_jump : (Cond.code yX4_jump cX4_jump 2 none) ∈ lw_gd := List.mem_filter.mpr ⟨List.mem_append_right _ (List.mem_of_getElem? (i := 536) (by decide +kernel)), by first | rfl | decide +kernel⟩
theorem wl_X4_118 : (Cond.methodLink RX4 118 yX4_isPlace) ∈ lw_gd := List.mem_filter.mpr ⟨List.mem_append_right _ (List.mem_of_getElem? (i := 537) (by decide +kernel)), by first | rfl | decide +kernel⟩
theorem wst_X4_isPlace : (Cond.static yX4_isPlace) ∈ lw_gd := List.mem_filter.mpr ⟨List.mem_append_right _ (List.mem_of_getElem? (i := 538) (by decide +kernel)), by first | rfl | decide +kernel⟩
theorem wc_X4_isPlace : (Cond.code yX4_isPlace cX4_isPlace 1 (some .boolean)) ∈ lw_gd := List.mem_filter.mpr ⟨List.mem_append_right _ (List.mem_of_getElem? (i := 539) (by decide +kernel)), by first | rfl | decide +kernel⟩
theorem wl_X4_149 : (Cond.methodLink RX4 149 yX4_send) ∈ lw_gd := List.mem_filter.mpr ⟨List.mem_append_right _ (List.mem_of_getElem? (i := 540) (by decide +kernel)), by first | rfl | decide +kernel⟩
theorem wi_X4_send : (Cond.instanceMethod yX4_send) ∈ lw_gd := List.mem_filter.mpr ⟨List.mem_append_right _ (List.mem_of_getElem? (i := 542) (by decide +kernel)), by first | rfl | decide +kernel⟩
theorem wc_X4_send : (Cond.code yX4_send cX4_send 4 none) ∈ lw_gd := List.mem_filter.mpr ⟨List.mem_append_right _ (List.mem_of_getElem? (i := 543) (by decide +kernel)), by first | rfl | decide +kernel⟩
theorem wl_X4_102 : (Cond.methodLink RX4 102 yX4_noQueue) ∈ lw_gd := List.mem_filter.mpr ⟨List.mem_append_right _ (List.mem_of_getElem? (i := 544) (by decide +kernel)), by first | rfl | decide +kernel⟩
theorem wi_X4_noQueue : (Cond.instanceMethod yX4_noQueue) ∈ lw_gd := List.mem_filter.mpr ⟨List.mem_append_right _ (List.mem_of_getElem? (i := 546) (by decide +kernel)), by first | rfl | decide +kernel⟩
theorem wc_X4_noQueue : (Cond.code yX4_noQueue cX4_noQueue 2 (some .boolean)) ∈ lw_gd := List.mem_filter.mpr ⟨List.mem_append_right _ (List.mem_of_getElem? (i := 547) (by decide +kernel)), by first | rfl | decide +kernel⟩
theorem wl_X4_109 : (Cond.methodLink RX4 109 yX4_inState) ∈ lw_gd := List.mem_filter.mpr ⟨List.mem_append_right _ (List.mem_of_getElem? (i := 548) (by decide +kernel)), by first | rfl | decide +kernel⟩
theorem wi_X4_inState : (Cond.instanceMethod yX4_inState) ∈ lw_gd := List.mem_filter.mpr ⟨List.mem_append_right _ (List.mem_of_getElem? (i := 550) (by decide +kernel)), by first | rfl | decide +kernel⟩
theorem wc_X4_inState : (Cond.code yX4_inState cX4_inState 8 (some .int)) ∈ lw_gd := List.mem_filter.mpr ⟨List.mem_append_right _ (List.mem_of_getElem? (i := 551) (by decide +kernel)), by first | rfl | decide +kernel⟩
theorem wl_X4_85 : (Cond.methodLink RX4 85 yX4_set) ∈ lw_gd := List.mem_filter.mpr ⟨List.mem_append_right _ (List.mem_of_getElem? (i := 552) (by decide +kernel)), by first | rfl | decide +kernel⟩
theorem wi_X4_set : (Cond.instanceMethod yX4_set) ∈ lw_gd := List.mem_filter.mpr ⟨List.mem_append_right _ (List.mem_of_getElem? (i := 554) (by decide +kernel)), by first | rfl | decide +kernel⟩
theorem wc_X4_set : (Cond.code yX4_set cX4_set 3 none) ∈ lw_gd := List.mem_filter.mpr ⟨List.mem_append_right _ (List.mem_of_getElem? (i := 555) (by decide +kernel)), by first | rfl | decide +kernel⟩
theorem wl_X4_112 : (Cond.methodLink RX4 112 yX4_append) ∈ lw_gd := List.mem_filter.mpr ⟨List.mem_append_right _ (List.mem_of_getElem? (i := 556) (by decide +kernel)), by first | rfl | decide +kernel⟩
theorem wi_X4_append : (Cond.instanceMethod yX4_append) ∈ lw_gd := List.mem_filter.mpr ⟨List.mem_append_right _ (List.mem_of_getElem? (i := 558) (by decide +kernel)), by first | rfl | decide +kernel⟩
theorem wc_X4_append : (Cond.code yX4_append cX4_append 3 none) ∈ lw_gd := List.mem_filter.mpr ⟨List.mem_append_right _ (List.mem_of_getElem? (i := 559) (by decide +kernel)), by first | rfl | decide +kernel⟩
theorem wl_X4_152 : (Cond.methodLink RX4 152 yX4_receive) ∈ lw_gd := List.mem_filter.mpr ⟨List.mem_append_right _ (List.mem_of_getElem? (i := 560) (by decide +kernel)), by first | rfl | decide +kernel⟩
theorem wi_X4_receive : (Cond.instanceMethod yX4_receive) ∈ lw_gd := List.mem_filter.mpr ⟨List.mem_append_right _ (List.mem_of_getElem? (i := 562) (by decide +kernel)), by first | rfl | decide +kernel⟩
theorem wc_X4_receive : (Cond.code yX4_receive cX4_receive 3 none) ∈ lw_gd := List.mem_filter.mpr ⟨List.mem_append_right _ (List.mem_of_getElem? (i := 563) (by decide +kernel)), by first | rfl | decide +kernel⟩
theorem wl_X4_137 : (Cond.methodLink RX4 137 yX4_end) ∈ lw_gd := List.mem_filter.mpr ⟨List.mem_append_right _ (List.mem_of_getElem? (i := 564) (by decide +kernel)), by first | rfl | decide +kernel⟩
theorem wi_X4_end : (Cond.instanceMethod yX4_end) ∈ lw_gd := List.mem_filter.mpr ⟨List.mem_append_right _ (List.mem_of_getElem? (i := 566) (by decide +kernel)), by first | rfl | decide +kernel⟩
theorem wc_X4_end : (Cond.code yX4_end cX4_end 3 none) ∈ lw_gd := List.mem_filter.mpr ⟨List.mem_append_right _ (List.mem_of_getElem? (i := 567) (by decide +kernel)), by first | rfl | decide +kernel⟩
theorem wl_X4_155 : (Cond.methodLink RX4 155 yX4_stackOp) ∈ lw_gd := List.mem_filter.mpr ⟨List.mem_append_right _ (List.mem_of_getElem? (i := 568) (by decide +kernel)), by first | rfl | decide +kernel⟩
theorem wi_X4_stackOp : (Cond.instanceMethod yX4_stackOp) ∈ lw_gd := List.mem_filter.mpr ⟨List.mem_append_right _ (List.mem_of_getElem? (i := 570) (by decide +kernel)), by first | rfl | decide +kernel⟩
theorem wc_X4_stackOp : (Cond.code yX4_stackOp cX4_stackOp 5 none) ∈ lw_gd := List.mem_filter.mpr ⟨List.mem_append_right _ (List.mem_of_getElem? (i := 571) (by decide +kernel)), by first | rfl | decide +kernel⟩
theorem wl_X4_158 : (Cond.methodLink RX4 158 yX4_taskOp) ∈ lw_gd := List.mem_filter.mpr ⟨List.mem_append_right _ (List.mem_of_getElem? (i := 572) (by decide +kernel)), by first | rfl | decide +kernel⟩
theorem wi_X4_taskOp : (Cond.instanceMethod yX4_taskOp) ∈ lw_gd := List.mem_filter.mpr ⟨List.mem_append_right _ (List.mem_of_getElem? (i := 574) (by decide +kernel)), by first | rfl | decide +kernel⟩
theorem wc_X4_taskOp : (Cond.code yX4_taskOp cX4_taskOp 5 none) ∈ lw_gd := List.mem_filter.mpr ⟨List.mem_append_right _ (List.mem_of_getElem? (i := 575) (by decide +kernel)), by first | rfl | decide +kernel⟩
theorem wl_X4_130 : (Cond.methodLink RX4 130 yX4_begin) ∈ lw_gd := List.mem_filter.mpr ⟨List.mem_append_right _ (List.mem_of_getElem? (i := 576) (by decide +kernel)), by first | rfl | decide +kernel⟩
theorem wi_X4_begin : (Cond.instanceMethod yX4_begin) ∈ lw_gd := List.mem_filter.mpr ⟨List.mem_append_right _ (List.mem_of_getElem? (i := 578) (by decide +kernel)), by first | rfl | decide +kernel⟩
theorem wc_X4_begin : (Cond.code yX4_begin cX4_begin 4 (some .int)) ∈ lw_gd := List.mem_filter.mpr ⟨List.mem_append_right _ (List.mem_of_getElem? (i := 579) (by decide +kernel)), by first | rfl | decide +kernel⟩
theorem wl_X4_81 : (Cond.methodLink RX4 81 yX4_freeTask) ∈ lw_gd := List.mem_filter.mpr ⟨List.mem_append_right _ (List.mem_of_getElem? (i := 580) (by decide +kernel)), by first | rfl | decide +kernel⟩
theorem wi_X4_freeTask : (Cond.instanceMethod yX4_freeTask) ∈ lw_gd := List.mem_filter.mpr ⟨List.mem_append_right _ (List.mem_of_getElem? (i := 582) (by decide +kernel)), by first | rfl | decide +kernel⟩
theorem wc_X4_freeTask : (Cond.code yX4_freeTask cX4_freeTask 2 (some .int)) ∈ lw_gd := List.mem_filter.mpr ⟨List.mem_append_right _ (List.mem_of_getElem? (i := 583) (by decide +kernel)), by first | rfl | decide +kernel⟩
theorem wl_X4_134 : (Cond.methodLink RX4 134 yX4_isLive) ∈ lw_gd := List.mem_filter.mpr ⟨List.mem_append_right _ (List.mem_of_getElem? (i := 584) (by decide +kernel)), by first | rfl | decide +kernel⟩
theorem wi_X4_isLive : (Cond.instanceMethod yX4_isLive) ∈ lw_gd := List.mem_filter.mpr ⟨List.mem_append_right _ (List.mem_of_getElem? (i := 586) (by decide +kernel)), by first | rfl | decide +kernel⟩
theorem wc_X4_isLive : (Cond.code yX4_isLive cX4_isLive 2 (some .boolean)) ∈ lw_gd := List.mem_filter.mpr ⟨List.mem_append_right _ (List.mem_of_getElem? (i := 587) (by decide +kernel)), by first | rfl | decide +kernel⟩
theorem wl_L_40 : (Cond.methodLink RL 40 yX4_run) ∈ lw_gd := List.mem_filter.mpr ⟨List.mem_append_right _ (List.mem_of_getElem? (i := 588) (by decide +kernel)), by first | rfl | decide +kernel⟩
theorem wi_X4_run : (Cond.instanceMethod yX4_run) ∈ lw_gd := List.mem_filter.mpr ⟨List.mem_append_right _ (List.mem_of_getElem? (i := 589) (by decide +kernel)), by first | rfl | decide +kernel⟩
theorem wse_X4_run : (Cond.selects RX4 yX4_run yX4_run) ∈ lw_gd := List.mem_filter.mpr ⟨List.mem_append_right _ (List.mem_of_getElem? (i := 590) (by decide +kernel)), by first | rfl | decide +kernel⟩
theorem wc_X4_run : (Cond.code yX4_run cX4_run 6 (some .int)) ∈ lw_gd := List.mem_filter.mpr ⟨List.mem_append_right _ (List.mem_of_getElem? (i := 591) (by decide +kernel)), by first | rfl | decide +kernel⟩
theorem wl_X4_167 : (Cond.methodLink RX4 167 yX4_step) ∈ lw_gd := List.mem_filter.mpr ⟨List.mem_append_right _ (List.mem_of_getElem? (i := 592) (by decide +kernel)), by first | rfl | decide +kernel⟩
theorem wl_L_44 : (Cond.methodLink RL 44 yX4_tick) ∈ lw_gd := List.mem_filter.mpr ⟨List.mem_append_right _ (List.mem_of_getElem? (i := 593) (by decide +kernel)), by first | rfl | decide +kernel⟩
theorem wi_X4_tick : (Cond.instanceMethod yX4_tick) ∈ lw_gd := List.mem_filter.mpr ⟨List.mem_append_right _ (List.mem_of_getElem? (i := 594) (by decide +kernel)), by first | rfl | decide +kernel⟩
theorem wse_X4_tick : (Cond.selects RX4 yX4_tick yX4_tick) ∈ lw_gd := List.mem_filter.mpr ⟨List.mem_append_right _ (List.mem_of_getElem? (i := 595) (by decide +kernel)), by first | rfl | decide +kernel⟩
theorem wc_X4_tick : (Cond.code yX4_tick cX4_tick 4 (some .int)) ∈ lw_gd := List.mem_filter.mpr ⟨List.mem_append_right _ (List.mem_of_getElem? (i := 596) (by decide +kernel)), by first | rfl | decide +kernel⟩
theorem wl_L_25 : (Cond.methodLink RL 25 yX4_poke) ∈ lw_gd := List.mem_filter.mpr ⟨List.mem_append_right _ (List.mem_of_getElem? (i := 597) (by decide +kernel)), by first | rfl | decide +kernel⟩
theorem wi_X4_poke : (Cond.instanceMethod yX4_poke) ∈ lw_gd := List.mem_filter.mpr ⟨List.mem_append_right _ (List.mem_of_getElem? (i := 598) (by decide +kernel)), by first | rfl | decide +kernel⟩
theorem wse_X4_poke : (Cond.selects RX4 yX4_poke yX4_poke) ∈ lw_gd := List.mem_filter.mpr ⟨List.mem_append_right _ (List.mem_of_getElem? (i := 599) (by decide +kernel)), by first | rfl | decide +kernel⟩
theorem wc_X4_poke : (Cond.code yX4_poke cX4_poke 3 (some .boolean)) ∈ lw_gd := List.mem_filter.mpr ⟨List.mem_append_right _ (List.mem_of_getElem? (i := 600) (by decide +kernel)), by first | rfl | decide +kernel⟩
theorem wl_L_30 : (Cond.methodLink RL 30 yX4_spawn) ∈ lw_gd := List.mem_filter.mpr ⟨List.mem_append_right _ (List.mem_of_getElem? (i := 601) (by decide +kernel)), by first | rfl | decide +kernel⟩
theorem wi_X4_spawn : (Cond.instanceMethod yX4_spawn) ∈ lw_gd := List.mem_filter.mpr ⟨List.mem_append_right _ (List.mem_of_getElem? (i := 602) (by decide +kernel)), by first | rfl | decide +kernel⟩
theorem wse_X4_spawn : (Cond.selects RX4 yX4_spawn yX4_spawn) ∈ lw_gd := List.mem_filter.mpr ⟨List.mem_append_right _ (List.mem_of_getElem? (i := 603) (by decide +kernel)), by first | rfl | decide +kernel⟩
theorem wc_X4_spawn : (Cond.code yX4_spawn cX4_spawn 4 (some .int)) ∈ lw_gd := List.mem_filter.mpr ⟨List.mem_append_right _ (List.mem_of_getElem? (i := 604) (by decide +kernel)), by first | rfl | decide +kernel⟩
theorem wl_L_49 : (Cond.methodLink RL 49 yX4_kill) ∈ lw_gd := List.mem_filter.mpr ⟨List.mem_append_right _ (List.mem_of_getElem? (i := 605) (by decide +kernel)), by first | rfl | decide +kernel⟩
theorem wi_X4_kill : (Cond.instanceMethod yX4_kill) ∈ lw_gd := List.mem_filter.mpr ⟨List.mem_append_right _ (List.mem_of_getElem? (i := 606) (by decide +kernel)), by first | rfl | decide +kernel⟩
theorem wse_X4_kill : (Cond.selects RX4 yX4_kill yX4_kill) ∈ lw_gd := List.mem_filter.mpr ⟨List.mem_append_right _ (List.mem_of_getElem? (i := 607) (by decide +kernel)), by first | rfl | decide +kernel⟩
theorem wc_X4_kill : (Cond.code yX4_kill cX4_kill 2 (some .boolean)) ∈ lw_gd := List.mem_filter.mpr ⟨List.mem_append_right _ (List.mem_of_getElem? (i := 608) (by decide +kernel)), by first | rfl | decide +kernel⟩
theorem wl_L_53 : (Cond.methodLink RL 53 yX4_state) ∈ lw_gd := List.mem_filter.mpr ⟨List.mem_append_right _ (List.mem_of_getElem? (i := 609) (by decide +kernel)), by first | rfl | decide +kernel⟩
theorem wi_X4_state : (Cond.instanceMethod yX4_state) ∈ lw_gd := List.mem_filter.mpr ⟨List.mem_append_right _ (List.mem_of_getElem? (i := 610) (by decide +kernel)), by first | rfl | decide +kernel⟩
theorem wse_X4_state : (Cond.selects RX4 yX4_state yX4_state) ∈ lw_gd := List.mem_filter.mpr ⟨List.mem_append_right _ (List.mem_of_getElem? (i := 611) (by decide +kernel)), by first | rfl | decide +kernel⟩
theorem wc_X4_state : (Cond.code yX4_state cX4_state 2 (some .int)) ∈ lw_gd := List.mem_filter.mpr ⟨List.mem_append_right _ (List.mem_of_getElem? (i := 612) (by decide +kernel)), by first | rfl | decide +kernel⟩
theorem wl_L_57 : (Cond.methodLink RL 57 yX4_task) ∈ lw_gd := List.mem_filter.mpr ⟨List.mem_append_right _ (List.mem_of_getElem? (i := 613) (by decide +kernel)), by first | rfl | decide +kernel⟩
theorem wi_X4_task : (Cond.instanceMethod yX4_task) ∈ lw_gd := List.mem_filter.mpr ⟨List.mem_append_right _ (List.mem_of_getElem? (i := 614) (by decide +kernel)), by first | rfl | decide +kernel⟩
theorem wse_X4_task : (Cond.selects RX4 yX4_task yX4_task) ∈ lw_gd := List.mem_filter.mpr ⟨List.mem_append_right _ (List.mem_of_getElem? (i := 615) (by decide +kernel)), by first | rfl | decide +kernel⟩
theorem wc_X4_task : (Cond.code yX4_task cX4_task 3 (some .int)) ∈ lw_gd := List.mem_filter.mpr ⟨List.mem_append_right _ (List.mem_of_getElem? (i := 616) (by decide +kernel)), by first | rfl | decide +kernel⟩
theorem wv_X4_174 : (Cond.constant RX4 174 (-2147483648)) ∈ lw_gd := List.mem_filter.mpr ⟨List.mem_append_right _ (List.mem_of_getElem? (i := 617) (by decide +kernel)), by first | rfl | decide +kernel⟩
theorem wl_L_61 : (Cond.methodLink RL 61 yX4_stack) ∈ lw_gd := List.mem_filter.mpr ⟨List.mem_append_right _ (List.mem_of_getElem? (i := 618) (by decide +kernel)), by first | rfl | decide +kernel⟩
theorem wi_X4_stack : (Cond.instanceMethod yX4_stack) ∈ lw_gd := List.mem_filter.mpr ⟨List.mem_append_right _ (List.mem_of_getElem? (i := 619) (by decide +kernel)), by first | rfl | decide +kernel⟩
theorem wse_X4_stack : (Cond.selects RX4 yX4_stack yX4_stack) ∈ lw_gd := List.mem_filter.mpr ⟨List.mem_append_right _ (List.mem_of_getElem? (i := 620) (by decide +kernel)), by first | rfl | decide +kernel⟩
theorem wc_X4_stack : (Cond.code yX4_stack cX4_stack 3 (some .int)) ∈ lw_gd := List.mem_filter.mpr ⟨List.mem_append_right _ (List.mem_of_getElem? (i := 621) (by decide +kernel)), by first | rfl | decide +kernel⟩
theorem wl_L_69 : (Cond.methodLink RL 69 yX4_queue) ∈ lw_gd := List.mem_filter.mpr ⟨List.mem_append_right _ (List.mem_of_getElem? (i := 622) (by decide +kernel)), by first | rfl | decide +kernel⟩
theorem wi_X4_queue : (Cond.instanceMethod yX4_queue) ∈ lw_gd := List.mem_filter.mpr ⟨List.mem_append_right _ (List.mem_of_getElem? (i := 623) (by decide +kernel)), by first | rfl | decide +kernel⟩
theorem wse_X4_queue : (Cond.selects RX4 yX4_queue yX4_queue) ∈ lw_gd := List.mem_filter.mpr ⟨List.mem_append_right _ (List.mem_of_getElem? (i := 624) (by decide +kernel)), by first | rfl | decide +kernel⟩
theorem wc_X4_queue : (Cond.code yX4_queue cX4_queue 2 (some .int)) ∈ lw_gd := List.mem_filter.mpr ⟨List.mem_append_right _ (List.mem_of_getElem? (i := 625) (by decide +kernel)), by first | rfl | decide +kernel⟩
theorem wl_L_73 : (Cond.methodLink RL 73 yX4_queued) ∈ lw_gd := List.mem_filter.mpr ⟨List.mem_append_right _ (List.mem_of_getElem? (i := 626) (by decide +kernel)), by first | rfl | decide +kernel⟩
theorem wi_X4_queued : (Cond.instanceMethod yX4_queued) ∈ lw_gd := List.mem_filter.mpr ⟨List.mem_append_right _ (List.mem_of_getElem? (i := 627) (by decide +kernel)), by first | rfl | decide +kernel⟩
theorem wse_X4_queued : (Cond.selects RX4 yX4_queued yX4_queued) ∈ lw_gd := List.mem_filter.mpr ⟨List.mem_append_right _ (List.mem_of_getElem? (i := 628) (by decide +kernel)), by first | rfl | decide +kernel⟩
theorem wc_X4_queued : (Cond.code yX4_queued cX4_queued 3 (some .int)) ∈ lw_gd := List.mem_filter.mpr ⟨List.mem_append_right _ (List.mem_of_getElem? (i := 629) (by decide +kernel)), by first | rfl | decide +kernel⟩
theorem wl_L_78 : (Cond.methodLink RL 78 yX4_waiter) ∈ lw_gd := List.mem_filter.mpr ⟨List.mem_append_right _ (List.mem_of_getElem? (i := 630) (by decide +kernel)), by first | rfl | decide +kernel⟩
theorem wi_X4_waiter : (Cond.instanceMethod yX4_waiter) ∈ lw_gd := List.mem_filter.mpr ⟨List.mem_append_right _ (List.mem_of_getElem? (i := 631) (by decide +kernel)), by first | rfl | decide +kernel⟩
theorem wse_X4_waiter : (Cond.selects RX4 yX4_waiter yX4_waiter) ∈ lw_gd := List.mem_filter.mpr ⟨List.mem_append_right _ (List.mem_of_getElem? (i := 632) (by decide +kernel)), by first | rfl | decide +kernel⟩
theorem wc_X4_waiter : (Cond.code yX4_waiter cX4_waiter 4 (some .int)) ∈ lw_gd := List.mem_filter.mpr ⟨List.mem_append_right _ (List.mem_of_getElem? (i := 633) (by decide +kernel)), by first | rfl | decide +kernel⟩
theorem wl_L_82 : (Cond.methodLink RL 82 yX4_memory) ∈ lw_gd := List.mem_filter.mpr ⟨List.mem_append_right _ (List.mem_of_getElem? (i := 634) (by decide +kernel)), by first | rfl | decide +kernel⟩
theorem wi_X4_memory : (Cond.instanceMethod yX4_memory) ∈ lw_gd := List.mem_filter.mpr ⟨List.mem_append_right _ (List.mem_of_getElem? (i := 635) (by decide +kernel)), by first | rfl | decide +kernel⟩
theorem wse_X4_memory : (Cond.selects RX4 yX4_memory yX4_memory) ∈ lw_gd := List.mem_filter.mpr ⟨List.mem_append_right _ (List.mem_of_getElem? (i := 636) (by decide +kernel)), by first | rfl | decide +kernel⟩
theorem wc_X4_memory : (Cond.code yX4_memory cX4_memory 2 (some .int)) ∈ lw_gd := List.mem_filter.mpr ⟨List.mem_append_right _ (List.mem_of_getElem? (i := 637) (by decide +kernel)), by first | rfl | decide +kernel⟩
theorem wl_L_86 : (Cond.methodLink RL 86 yX4_emitted) ∈ lw_gd := List.mem_filter.mpr ⟨List.mem_append_right _ (List.mem_of_getElem? (i := 638) (by decide +kernel)), by first | rfl | decide +kernel⟩
theorem wi_X4_emitted : (Cond.instanceMethod yX4_emitted) ∈ lw_gd := List.mem_filter.mpr ⟨List.mem_append_right _ (List.mem_of_getElem? (i := 639) (by decide +kernel)), by first | rfl | decide +kernel⟩
theorem wse_X4_emitted : (Cond.selects RX4 yX4_emitted yX4_emitted) ∈ lw_gd := List.mem_filter.mpr ⟨List.mem_append_right _ (List.mem_of_getElem? (i := 640) (by decide +kernel)), by first | rfl | decide +kernel⟩
theorem wc_X4_emitted : (Cond.code yX4_emitted cX4_emitted 1 (some .int)) ∈ lw_gd := List.mem_filter.mpr ⟨List.mem_append_right _ (List.mem_of_getElem? (i := 641) (by decide +kernel)), by first | rfl | decide +kernel⟩
theorem wl_L_90 : (Cond.methodLink RL 90 yX4_out) ∈ lw_gd := List.mem_filter.mpr ⟨List.mem_append_right _ (List.mem_of_getElem? (i := 642) (by decide +kernel)), by first | rfl | decide +kernel⟩
theorem wi_X4_out : (Cond.instanceMethod yX4_out) ∈ lw_gd := List.mem_filter.mpr ⟨List.mem_append_right _ (List.mem_of_getElem? (i := 643) (by decide +kernel)), by first | rfl | decide +kernel⟩
theorem wse_X4_out : (Cond.selects RX4 yX4_out yX4_out) ∈ lw_gd := List.mem_filter.mpr ⟨List.mem_append_right _ (List.mem_of_getElem? (i := 644) (by decide +kernel)), by first | rfl | decide +kernel⟩
theorem wc_X4_out : (Cond.code yX4_out cX4_out 2 (some .int)) ∈ lw_gd := List.mem_filter.mpr ⟨List.mem_append_right _ (List.mem_of_getElem? (i := 645) (by decide +kernel)), by first | rfl | decide +kernel⟩
theorem wl_L_94 : (Cond.methodLink RL 94 yX4_why) ∈ lw_gd := List.mem_filter.mpr ⟨List.mem_append_right _ (List.mem_of_getElem? (i := 646) (by decide +kernel)), by first | rfl | decide +kernel⟩
theorem wi_X4_why : (Cond.instanceMethod yX4_why) ∈ lw_gd := List.mem_filter.mpr ⟨List.mem_append_right _ (List.mem_of_getElem? (i := 647) (by decide +kernel)), by first | rfl | decide +kernel⟩
theorem wse_X4_why : (Cond.selects RX4 yX4_why yX4_why) ∈ lw_gd := List.mem_filter.mpr ⟨List.mem_append_right _ (List.mem_of_getElem? (i := 648) (by decide +kernel)), by first | rfl | decide +kernel⟩
theorem wc_X4_why : (Cond.code yX4_why cX4_why 2 (some .int)) ∈ lw_gd := List.mem_filter.mpr ⟨List.mem_append_right _ (List.mem_of_getElem? (i := 649) (by decide +kernel)), by first | rfl | decide +kernel⟩
theorem wl_L_98 : (Cond.methodLink RL 98 yX4_clock) ∈ lw_gd := List.mem_filter.mpr ⟨List.mem_append_right _ (List.mem_of_getElem? (i := 650) (by decide +kernel)), by first | rfl | decide +kernel⟩
theorem wi_X4_clock : (Cond.instanceMethod yX4_clock) ∈ lw_gd := List.mem_filter.mpr ⟨List.mem_append_right _ (List.mem_of_getElem? (i := 651) (by decide +kernel)), by first | rfl | decide +kernel⟩
theorem wse_X4_clock : (Cond.selects RX4 yX4_clock yX4_clock) ∈ lw_gd := List.mem_filter.mpr ⟨List.mem_append_right _ (List.mem_of_getElem? (i := 652) (by decide +kernel)), by first | rfl | decide +kernel⟩
theorem wc_X4_clock : (Cond.code yX4_clock cX4_clock 1 (some .int)) ∈ lw_gd := List.mem_filter.mpr ⟨List.mem_append_right _ (List.mem_of_getElem? (i := 653) (by decide +kernel)), by first | rfl | decide +kernel⟩
theorem wse_X3_beginLeastFree : (Cond.selects RX3 yX3_beginLeastFree yX3_beginLeastFree) ∈ lw_gd := List.mem_filter.mpr ⟨List.mem_append_left _ (List.mem_of_getElem? (i := 0) (by decide +kernel)), by first | rfl | decide +kernel⟩
theorem wse_X3_enter : (Cond.selects RX3 yX3_enter yX3_enter) ∈ lw_gd := List.mem_filter.mpr ⟨List.mem_append_left _ (List.mem_of_getElem? (i := 1) (by decide +kernel)), by first | rfl | decide +kernel⟩
theorem wse_X3_runWord : (Cond.selects RX3 yX3_runWord yX3_runWord) ∈ lw_gd := List.mem_filter.mpr ⟨List.mem_append_left _ (List.mem_of_getElem? (i := 2) (by decide +kernel)), by first | rfl | decide +kernel⟩
theorem wse_X3_runOnNumbers : (Cond.selects RX3 yX3_runOnNumbers yX3_runOnNumbers) ∈ lw_gd := List.mem_filter.mpr ⟨List.mem_append_left _ (List.mem_of_getElem? (i := 3) (by decide +kernel)), by first | rfl | decide +kernel⟩
theorem wse_X3_copyTop : (Cond.selects RX3 yX3_copyTop yX3_copyTop) ∈ lw_gd := List.mem_filter.mpr ⟨List.mem_append_left _ (List.mem_of_getElem? (i := 4) (by decide +kernel)), by first | rfl | decide +kernel⟩
theorem wse_X3_drop : (Cond.selects RX3 yX3_drop yX3_drop) ∈ lw_gd := List.mem_filter.mpr ⟨List.mem_append_left _ (List.mem_of_getElem? (i := 5) (by decide +kernel)), by first | rfl | decide +kernel⟩
theorem wse_X3_swap : (Cond.selects RX3 yX3_swap yX3_swap) ∈ lw_gd := List.mem_filter.mpr ⟨List.mem_append_left _ (List.mem_of_getElem? (i := 6) (by decide +kernel)), by first | rfl | decide +kernel⟩
theorem wse_X3_load : (Cond.selects RX3 yX3_load yX3_load) ∈ lw_gd := List.mem_filter.mpr ⟨List.mem_append_left _ (List.mem_of_getElem? (i := 7) (by decide +kernel)), by first | rfl | decide +kernel⟩
theorem wse_X3_store : (Cond.selects RX3 yX3_store yX3_store) ∈ lw_gd := List.mem_filter.mpr ⟨List.mem_append_left _ (List.mem_of_getElem? (i := 8) (by decide +kernel)), by first | rfl | decide +kernel⟩
theorem wse_X3_compute : (Cond.selects RX3 yX3_compute yX3_compute) ∈ lw_gd := List.mem_filter.mpr ⟨List.mem_append_left _ (List.mem_of_getElem? (i := 9) (by decide +kernel)), by first | rfl | decide +kernel⟩
theorem wse_X3_runOnItself : (Cond.selects RX3 yX3_runOnItself yX3_runOnItself) ∈ lw_gd := List.mem_filter.mpr ⟨List.mem_append_left _ (List.mem_of_getElem? (i := 10) (by decide +kernel)), by first | rfl | decide +kernel⟩
theorem wse_X3_jump : (Cond.selects RX3 yX3_jump yX3_jump) ∈ lw_gd := List.mem_filter.mpr ⟨List.mem_append_left _ (List.mem_of_getElem? (i := 11) (by decide +kernel)), by first | rfl | decide +kernel⟩
theorem wse_X3_jumpIfZero : (Cond.selects RX3 yX3_jumpIfZero yX3_jumpIfZero) ∈ lw_gd := List.mem_filter.mpr ⟨List.mem_append_left _ (List.mem_of_getElem? (i := 12) (by decide +kernel)), by first | rfl | decide +kernel⟩
theorem wse_X3_callPlace : (Cond.selects RX3 yX3_callPlace yX3_callPlace) ∈ lw_gd := List.mem_filter.mpr ⟨List.mem_append_left _ (List.mem_of_getElem? (i := 13) (by decide +kernel)), by first | rfl | decide +kernel⟩
theorem wse_X3_goBack : (Cond.selects RX3 yX3_goBack yX3_goBack) ∈ lw_gd := List.mem_filter.mpr ⟨List.mem_append_left _ (List.mem_of_getElem? (i := 14) (by decide +kernel)), by first | rfl | decide +kernel⟩
theorem wse_X3_emit : (Cond.selects RX3 yX3_emit yX3_emit) ∈ lw_gd := List.mem_filter.mpr ⟨List.mem_append_left _ (List.mem_of_getElem? (i := 15) (by decide +kernel)), by first | rfl | decide +kernel⟩
theorem wse_X3_runWithOthers : (Cond.selects RX3 yX3_runWithOthers yX3_runWithOthers) ∈ lw_gd := List.mem_filter.mpr ⟨List.mem_append_left _ (List.mem_of_getElem? (i := 16) (by decide +kernel)), by first | rfl | decide +kernel⟩
theorem wse_X3_beginOther : (Cond.selects RX3 yX3_beginOther yX3_beginOther) ∈ lw_gd := List.mem_filter.mpr ⟨List.mem_append_left _ (List.mem_of_getElem? (i := 17) (by decide +kernel)), by first | rfl | decide +kernel⟩
theorem wse_X3_sleep : (Cond.selects RX3 yX3_sleep yX3_sleep) ∈ lw_gd := List.mem_filter.mpr ⟨List.mem_append_left _ (List.mem_of_getElem? (i := 18) (by decide +kernel)), by first | rfl | decide +kernel⟩
theorem wse_X3_send : (Cond.selects RX3 yX3_send yX3_send) ∈ lw_gd := List.mem_filter.mpr ⟨List.mem_append_left _ (List.mem_of_getElem? (i := 19) (by decide +kernel)), by first | rfl | decide +kernel⟩
theorem wse_X3_isQueue : (Cond.selects RX3 yX3_isQueue yX3_isQueue) ∈ lw_gd := List.mem_filter.mpr ⟨List.mem_append_left _ (List.mem_of_getElem? (i := 20) (by decide +kernel)), by first | rfl | decide +kernel⟩
theorem wse_X3_firstWaiting : (Cond.selects RX3 yX3_firstWaiting yX3_firstWaiting) ∈ lw_gd := List.mem_filter.mpr ⟨List.mem_append_left _ (List.mem_of_getElem? (i := 21) (by decide +kernel)), by first | rfl | decide +kernel⟩
theorem wse_X0_slot : (Cond.selects RX0 yX0_slot yX0_slot) ∈ lw_gd := List.mem_filter.mpr ⟨List.mem_append_left _ (List.mem_of_getElem? (i := 22) (by decide +kernel)), by first | rfl | decide +kernel⟩
theorem wse_X3_waitAt : (Cond.selects RX3 yX3_waitAt yX3_waitAt) ∈ lw_gd := List.mem_filter.mpr ⟨List.mem_append_left _ (List.mem_of_getElem? (i := 23) (by decide +kernel)), by first | rfl | decide +kernel⟩
theorem wse_X3_receive : (Cond.selects RX3 yX3_receive yX3_receive) ∈ lw_gd := List.mem_filter.mpr ⟨List.mem_append_left _ (List.mem_of_getElem? (i := 24) (by decide +kernel)), by first | rfl | decide +kernel⟩
theorem wse_X3_killOther : (Cond.selects RX3 yX3_killOther yX3_killOther) ∈ lw_gd := List.mem_filter.mpr ⟨List.mem_append_left _ (List.mem_of_getElem? (i := 25) (by decide +kernel)), by first | rfl | decide +kernel⟩
theorem wse_X3_isLive : (Cond.selects RX3 yX3_isLive yX3_isLive) ∈ lw_gd := List.mem_filter.mpr ⟨List.mem_append_left _ (List.mem_of_getElem? (i := 26) (by decide +kernel)), by first | rfl | decide +kernel⟩
theorem wse_X3_isTask : (Cond.selects RX3 yX3_isTask yX3_isTask) ∈ lw_gd := List.mem_filter.mpr ⟨List.mem_append_left _ (List.mem_of_getElem? (i := 27) (by decide +kernel)), by first | rfl | decide +kernel⟩
theorem wse_X3_firstDueSleeper : (Cond.selects RX3 yX3_firstDueSleeper yX3_firstDueSleeper) ∈ lw_gd := List.mem_filter.mpr ⟨List.mem_append_left _ (List.mem_of_getElem? (i := 28) (by decide +kernel)), by first | rfl | decide +kernel⟩
theorem wse_X3_countBefore : (Cond.selects RX3 yX3_countBefore yX3_countBefore) ∈ lw_gd := List.mem_filter.mpr ⟨List.mem_append_left _ (List.mem_of_getElem? (i := 29) (by decide +kernel)), by first | rfl | decide +kernel⟩
theorem wse_X4_fall : (Cond.selects RX4 yX4_fall yX4_fall) ∈ lw_gd := List.mem_filter.mpr ⟨List.mem_append_left _ (List.mem_of_getElem? (i := 30) (by decide +kernel)), by first | rfl | decide +kernel⟩
theorem wse_X4_perform : (Cond.selects RX4 yX4_perform yX4_perform) ∈ lw_gd := List.mem_filter.mpr ⟨List.mem_append_left _ (List.mem_of_getElem? (i := 31) (by decide +kernel)), by first | rfl | decide +kernel⟩
theorem wse_X4_arithmetic : (Cond.selects RX4 yX4_arithmetic yX4_arithmetic) ∈ lw_gd := List.mem_filter.mpr ⟨List.mem_append_left _ (List.mem_of_getElem? (i := 32) (by decide +kernel)), by first | rfl | decide +kernel⟩
theorem wse_X4_take : (Cond.selects RX4 yX4_take yX4_take) ∈ lw_gd := List.mem_filter.mpr ⟨List.mem_append_left _ (List.mem_of_getElem? (i := 33) (by decide +kernel)), by first | rfl | decide +kernel⟩
theorem wse_X4_put : (Cond.selects RX4 yX4_put yX4_put) ∈ lw_gd := List.mem_filter.mpr ⟨List.mem_append_left _ (List.mem_of_getElem? (i := 34) (by decide +kernel)), by first | rfl | decide +kernel⟩
theorem wse_X4_give : (Cond.selects RX4 yX4_give yX4_give) ∈ lw_gd := List.mem_filter.mpr ⟨List.mem_append_left _ (List.mem_of_getElem? (i := 35) (by decide +kernel)), by first | rfl | decide +kernel⟩
theorem wse_X4_memoryOp : (Cond.selects RX4 yX4_memoryOp yX4_memoryOp) ∈ lw_gd := List.mem_filter.mpr ⟨List.mem_append_left _ (List.mem_of_getElem? (i := 36) (by decide +kernel)), by first | rfl | decide +kernel⟩
theorem wse_X4_jumpOp : (Cond.selects RX4 yX4_jumpOp yX4_jumpOp) ∈ lw_gd := List.mem_filter.mpr ⟨List.mem_append_left _ (List.mem_of_getElem? (i := 37) (by decide +kernel)), by first | rfl | decide +kernel⟩
theorem wse_X4_jump : (Cond.selects RX4 yX4_jump yX4_jump) ∈ lw_gd := List.mem_filter.mpr ⟨List.mem_append_left _ (List.mem_of_getElem? (i := 38) (by decide +kernel)), by first | rfl | decide +kernel⟩
theorem wse_X4_send : (Cond.selects RX4 yX4_send yX4_send) ∈ lw_gd := List.mem_filter.mpr ⟨List.mem_append_left _ (List.mem_of_getElem? (i := 39) (by decide +kernel)), by first | rfl | decide +kernel⟩
theorem wse_X4_noQueue : (Cond.selects RX4 yX4_noQueue yX4_noQueue) ∈ lw_gd := List.mem_filter.mpr ⟨List.mem_append_left _ (List.mem_of_getElem? (i := 40) (by decide +kernel)), by first | rfl | decide +kernel⟩
theorem wse_X4_inState : (Cond.selects RX4 yX4_inState yX4_inState) ∈ lw_gd := List.mem_filter.mpr ⟨List.mem_append_left _ (List.mem_of_getElem? (i := 41) (by decide +kernel)), by first | rfl | decide +kernel⟩
theorem wse_X4_set : (Cond.selects RX4 yX4_set yX4_set) ∈ lw_gd := List.mem_filter.mpr ⟨List.mem_append_left _ (List.mem_of_getElem? (i := 42) (by decide +kernel)), by first | rfl | decide +kernel⟩
theorem wse_X4_append : (Cond.selects RX4 yX4_append yX4_append) ∈ lw_gd := List.mem_filter.mpr ⟨List.mem_append_left _ (List.mem_of_getElem? (i := 43) (by decide +kernel)), by first | rfl | decide +kernel⟩
theorem wse_X4_receive : (Cond.selects RX4 yX4_receive yX4_receive) ∈ lw_gd := List.mem_filter.mpr ⟨List.mem_append_left _ (List.mem_of_getElem? (i := 44) (by decide +kernel)), by first | rfl | decide +kernel⟩
theorem wse_X4_end : (Cond.selects RX4 yX4_end yX4_end) ∈ lw_gd := List.mem_filter.mpr ⟨List.mem_append_left _ (List.mem_of_getElem? (i := 45) (by decide +kernel)), by first | rfl | decide +kernel⟩
theorem wse_X4_stackOp : (Cond.selects RX4 yX4_stackOp yX4_stackOp) ∈ lw_gd := List.mem_filter.mpr ⟨List.mem_append_left _ (List.mem_of_getElem? (i := 46) (by decide +kernel)), by first | rfl | decide +kernel⟩
theorem wse_X4_taskOp : (Cond.selects RX4 yX4_taskOp yX4_taskOp) ∈ lw_gd := List.mem_filter.mpr ⟨List.mem_append_left _ (List.mem_of_getElem? (i := 47) (by decide +kernel)), by first | rfl | decide +kernel⟩
theorem wse_X4_begin : (Cond.selects RX4 yX4_begin yX4_begin) ∈ lw_gd := List.mem_filter.mpr ⟨List.mem_append_left _ (List.mem_of_getElem? (i := 48) (by decide +kernel)), by first | rfl | decide +kernel⟩
theorem wse_X4_freeTask : (Cond.selects RX4 yX4_freeTask yX4_freeTask) ∈ lw_gd := List.mem_filter.mpr ⟨List.mem_append_left _ (List.mem_of_getElem? (i := 49) (by decide +kernel)), by first | rfl | decide +kernel⟩
theorem wse_X4_isLive : (Cond.selects RX4 yX4_isLive yX4_isLive) ∈ lw_gd := List.mem_filter.mpr ⟨List.mem_append_left _ (List.mem_of_getElem? (i := 50) (by decide +kernel)), by first | rfl | decide +kernel⟩
theorem inX0 : ∀ w ∈ u_ws RX0 TX0 3, w ∈ lw_gd := fun w h => List.mem_filter.mpr ⟨List.mem_append_right _ (by
  have hp : u_ws RX0 TX0 3 = ([103, 105, 107] : List Nat).filterMap (fun i => tables_1[i]?) := by decide +kernel
  rw [hp] at h
  obtain ⟨i, -, hi⟩ := List.mem_filterMap.mp h
  exact List.mem_of_getElem? hi), List.all_eq_true.mp (show (u_ws RX0 TX0 3).all goodWord = true by decide +kernel) w h⟩
theorem inX1 : ∀ w ∈ u_ws RX1 TX1 2, w ∈ lw_gd := fun w h => List.mem_filter.mpr ⟨List.mem_append_right _ (by
  have hp : u_ws RX1 TX1 2 = ([41, 43] : List Nat).filterMap (fun i => tables_1[i]?) := by decide +kernel
  rw [hp] at h
  obtain ⟨i, -, hi⟩ := List.mem_filterMap.mp h
  exact List.mem_of_getElem? hi), List.all_eq_true.mp (show (u_ws RX1 TX1 2).all goodWord = true by decide +kernel) w h⟩
theorem inX2 : ∀ w ∈ u_ws RX2 TX2 11, w ∈ lw_gd := fun w h => List.mem_filter.mpr ⟨List.mem_append_right _ (by
  have hp : u_ws RX2 TX2 11 = ([69, 71, 73, 75, 77, 79, 81, 83, 85, 87, 89] : List Nat).filterMap (fun i => tables_1[i]?) := by decide +kernel
  rw [hp] at h
  obtain ⟨i, -, hi⟩ := List.mem_filterMap.mp h
  exact List.mem_of_getElem? hi), List.all_eq_true.mp (show (u_ws RX2 TX2 11).all goodWord = true by decide +kernel) w h⟩
theorem inX3 : ∀ w ∈ u_ws RX3 TX3 9, w ∈ lw_gd := fun w h => List.mem_filter.mpr ⟨List.mem_append_right _ (by
  have hp : u_ws RX3 TX3 9 = ([119, 121, 123, 125, 127, 129, 131, 133, 135] : List Nat).filterMap (fun i => tables_1[i]?) := by decide +kernel
  rw [hp] at h
  obtain ⟨i, -, hi⟩ := List.mem_filterMap.mp h
  exact List.mem_of_getElem? hi), List.all_eq_true.mp (show (u_ws RX3 TX3 9).all goodWord = true by decide +kernel) w h⟩
theorem inX4 : ∀ w ∈ u_ws RX4 TX4 27, w ∈ lw_gd := fun w h => List.mem_filter.mpr ⟨List.mem_append_right _ (by
  have hp : u_ws RX4 TX4 27 = ([437, 439, 441, 443, 445, 447, 449, 451, 453, 455, 457, 459, 461, 463, 465, 467, 469, 471, 473, 475, 477, 479, 481, 483, 485, 487, 489] : List Nat).filterMap (fun i => tables_1[i]?) := by decide +kernel
  rw [hp] at h
  obtain ⟨i, -, hi⟩ := List.mem_filterMap.mp h
  exact List.mem_of_getElem? hi), List.all_eq_true.mp (show (u_ws RX4 TX4 27).all goodWord = true by decide +kernel) w h⟩
theorem goodT {y : MethodName} {cc : ByteArray} {n : Nat} {r : Option FieldType} (h : Cond.code y cc n r ∈ lw_gd) : GoodIn lw_gd (.code y cc n r :: lw_gd) := fun w hw => by
  rcases List.mem_cons.mp hw with rfl | hw
  · exact ⟨h, good_of_word (List.mem_filter.mp h).2⟩
  · exact ⟨hw, good_of_word (List.mem_filter.mp hw).2⟩
