/-- the good words of the tables -/
def gw : List Cond := lw_tbl.filter goodWord
theorem gw_in {w : Cond} (h : w ∈ lw_tbl) (g : goodWord w = true) : w ∈ gw := List.mem_filter.mpr ⟨h, g⟩
theorem gw_tb {w : Cond} (h : w ∈ gw) : w ∈ lw_tbl := (List.mem_filter.mp h).1
theorem gw_good : ∀ w ∈ gw, (w.onTables && w.keeps) = true ∨ ∃ ty, w = .arrayClass ty := fun w h => good_of_word (List.mem_filter.mp h).2
theorem gw_t {w : Cond} (h : w ∈ tables_1) (g : goodWord w = true) : w ∈ gw := gw_in (List.mem_append_right _ h) g
theorem gw_t1 {w : Cond} (h : w ∈ tables_1_1) : w ∈ tables_1 := List.mem_append_left _ h
theorem gw_t2 {w : Cond} (h : w ∈ tables_1_2) : w ∈ tables_1 := List.mem_append_right _ (List.mem_append_left _ h)
theorem gw_t3 {w : Cond} (h : w ∈ tables_1_3) : w ∈ tables_1 := List.mem_append_right _ (List.mem_append_right _ (List.mem_append_left _ h))
theorem lw_pv_lw_privs_1 {q : MethodName × Nat} (h : q ∈ lw_privs_1) : q ∈ lw_privs := List.mem_append_left _ h
theorem lw_pv_lw_privs_2 {q : MethodName × Nat} (h : q ∈ lw_privs_2) : q ∈ lw_privs := List.mem_append_right _ (List.mem_append_left _ h)
theorem lw_pv_lw_privs_3 {q : MethodName × Nat} (h : q ∈ lw_privs_3) : q ∈ lw_privs := List.mem_append_right _ (List.mem_append_right _ (List.mem_append_left _ h))
theorem lw_pv_lw_privs_4 {q : MethodName × Nat} (h : q ∈ lw_privs_4) : q ∈ lw_privs := List.mem_append_right _ (List.mem_append_right _ (List.mem_append_right _ (List.mem_append_left _ h)))
theorem lw_pv_lw_privs_5 {q : MethodName × Nat} (h : q ∈ lw_privs_5) : q ∈ lw_privs := List.mem_append_right _ (List.mem_append_right _ (List.mem_append_right _ (List.mem_append_right _ (h))))
theorem gw_t4 {w : Cond} (h : w ∈ tables_1_4) : w ∈ tables_1 := List.mem_append_right _ (List.mem_append_right _ (List.mem_append_right _ (List.mem_append_left _ h)))
theorem gw_t5 {w : Cond} (h : w ∈ tables_1_5) : w ∈ tables_1 := List.mem_append_right _ (List.mem_append_right _ (List.mem_append_right _ (List.mem_append_right _ (List.mem_append_left _ h))))
theorem gw_t6 {w : Cond} (h : w ∈ tables_1_6) : w ∈ tables_1 := List.mem_append_right _ (List.mem_append_right _ (List.mem_append_right _ (List.mem_append_right _ (List.mem_append_right _ (List.mem_append_left _ h)))))
theorem gw_t7 {w : Cond} (h : w ∈ tables_1_7) : w ∈ tables_1 := List.mem_append_right _ (List.mem_append_right _ (List.mem_append_right _ (List.mem_append_right _ (List.mem_append_right _ (List.mem_append_right _ (h))))))
theorem qIN_RL : (Jvm.Cond.initialized "HedgesAndDitchesLaw") ∈ gw := gw_t (gw_t1 (List.mem_of_getElem? (l := tables_1_1) (i := 0) (by decide +kernel))) rfl
theorem qIN_RX3 : (Jvm.Cond.initialized "HedgesAndDitches") ∈ gw := gw_t (gw_t1 (List.mem_of_getElem? (l := tables_1_1) (i := 1) (by decide +kernel))) rfl
theorem qIN_RX0 : (Jvm.Cond.initialized "HedgesAndDitches$Game") ∈ gw := gw_t (gw_t1 (List.mem_of_getElem? (l := tables_1_1) (i := 2) (by decide +kernel))) rfl
theorem qIN_RX2 : (Jvm.Cond.initialized "HedgesAndDitches$Tape") ∈ gw := gw_t (gw_t1 (List.mem_of_getElem? (l := tables_1_1) (i := 3) (by decide +kernel))) rfl
theorem qIN_RX1 : (Jvm.Cond.initialized "HedgesAndDitches$Shelf") ∈ gw := gw_t (gw_t1 (List.mem_of_getElem? (l := tables_1_1) (i := 4) (by decide +kernel))) rfl
theorem qIN_RX4 : (Jvm.Cond.initialized "HedgesAndDitchesModel") ∈ gw := gw_t (gw_t1 (List.mem_of_getElem? (l := tables_1_1) (i := 5) (by decide +kernel))) rfl
theorem qIN_RJ10 : (Jvm.Cond.initialized "java/lang/System") ∈ gw := gw_t (gw_t1 (List.mem_of_getElem? (l := tables_1_1) (i := 6) (by decide +kernel))) rfl
theorem qIN_RJ13 : (Jvm.Cond.initialized "java/lang/Long") ∈ gw := gw_t (gw_t1 (List.mem_of_getElem? (l := tables_1_1) (i := 7) (by decide +kernel))) rfl
theorem qIN_RJ6 : (Jvm.Cond.initialized "java/lang/Integer") ∈ gw := gw_t (gw_t1 (List.mem_of_getElem? (l := tables_1_1) (i := 8) (by decide +kernel))) rfl
theorem qIN_RJ9 : (Jvm.Cond.initialized "java/lang/Math") ∈ gw := gw_t (gw_t1 (List.mem_of_getElem? (l := tables_1_1) (i := 9) (by decide +kernel))) rfl
theorem qIN_RJ0 : (Jvm.Cond.initialized "java/lang/String") ∈ gw := gw_t (gw_t1 (List.mem_of_getElem? (l := tables_1_1) (i := 10) (by decide +kernel))) rfl
theorem qIN_RJ1 : (Jvm.Cond.initialized "java/lang/StringLatin1") ∈ gw := gw_t (gw_t1 (List.mem_of_getElem? (l := tables_1_1) (i := 11) (by decide +kernel))) rfl
theorem qIN_RJ3 : (Jvm.Cond.initialized "jdk/internal/util/Preconditions") ∈ gw := gw_t (gw_t1 (List.mem_of_getElem? (l := tables_1_1) (i := 12) (by decide +kernel))) rfl
theorem qIN_RJ2 : (Jvm.Cond.initialized "java/lang/StringUTF16") ∈ gw := gw_t (gw_t1 (List.mem_of_getElem? (l := tables_1_1) (i := 13) (by decide +kernel))) rfl
theorem qKL_RL_7 : (Jvm.Cond.classLink "HedgesAndDitchesLaw" (7 : Nat) "HedgesAndDitches") ∈ gw := gw_t (gw_t1 (List.mem_of_getElem? (l := tables_1_1) (i := 14) (by decide +kernel))) rfl
theorem qIS_RX3 : (Jvm.Cond.instantiable "HedgesAndDitches" (11 : Nat)) ∈ gw := gw_t (gw_t1 (List.mem_of_getElem? (l := tables_1_1) (i := 15) (by decide +kernel))) rfl
theorem qML_RL_9 : (Jvm.Cond.methodLink "HedgesAndDitchesLaw" (9 : Nat) yX3_init) ∈ gw := gw_t (gw_t1 (List.mem_of_getElem? (l := tables_1_1) (i := 16) (by decide +kernel))) rfl
theorem qIM_yX3_init : (Jvm.Cond.instanceMethod yX3_init) ∈ gw := gw_t (gw_t1 (List.mem_of_getElem? (l := tables_1_1) (i := 17) (by decide +kernel))) rfl
theorem qCO_yX3_init : (Jvm.Cond.code yX3_init prog_1_method_1_code (2 : Nat) (Option.none : Option Jvm.ClassFile.FieldType)) ∈ gw := gw_t (gw_t1 (List.mem_of_getElem? (l := tables_1_1) (i := 18) (by decide +kernel))) rfl
theorem qML_RX3_1 : (Jvm.Cond.methodLink "HedgesAndDitches" (1 : Nat) objectInit) ∈ gw := gw_t (gw_t1 (List.mem_of_getElem? (l := tables_1_1) (i := 19) (by decide +kernel))) rfl
theorem qIM_objectInit : (Jvm.Cond.instanceMethod objectInit) ∈ gw := gw_t (gw_t1 (List.mem_of_getElem? (l := tables_1_1) (i := 20) (by decide +kernel))) rfl
theorem qCO_objectInit : (Jvm.Cond.code objectInit object_method_1_code (1 : Nat) (Option.none : Option Jvm.ClassFile.FieldType)) ∈ gw := gw_t (gw_t1 (List.mem_of_getElem? (l := tables_1_1) (i := 21) (by decide +kernel))) rfl
theorem qKL_RX3_7 : (Jvm.Cond.classLink "HedgesAndDitches" (7 : Nat) "HedgesAndDitches$Game") ∈ gw := gw_t (gw_t1 (List.mem_of_getElem? (l := tables_1_1) (i := 22) (by decide +kernel))) rfl
theorem qIS_RX0 : (Jvm.Cond.instantiable "HedgesAndDitches$Game" (16 : Nat)) ∈ gw := gw_t (gw_t1 (List.mem_of_getElem? (l := tables_1_1) (i := 23) (by decide +kernel))) rfl
theorem qML_RX3_9 : (Jvm.Cond.methodLink "HedgesAndDitches" (9 : Nat) yX0_init) ∈ gw := gw_t (gw_t1 (List.mem_of_getElem? (l := tables_1_1) (i := 24) (by decide +kernel))) rfl
theorem qIM_yX0_init : (Jvm.Cond.instanceMethod yX0_init) ∈ gw := gw_t (gw_t1 (List.mem_of_getElem? (l := tables_1_1) (i := 25) (by decide +kernel))) rfl
theorem qCO_yX0_init : (Jvm.Cond.code yX0_init prog_2_method_1_code (1 : Nat) (Option.none : Option Jvm.ClassFile.FieldType)) ∈ gw := gw_t (gw_t1 (List.mem_of_getElem? (l := tables_1_1) (i := 26) (by decide +kernel))) rfl
theorem qML_RX0_3 : (Jvm.Cond.methodLink "HedgesAndDitches$Game" (3 : Nat) objectInit) ∈ gw := gw_t (gw_t1 (List.mem_of_getElem? (l := tables_1_1) (i := 27) (by decide +kernel))) rfl
theorem qML_RX0_15 : (Jvm.Cond.methodLink "HedgesAndDitches$Game" (15 : Nat) yX0_lay) ∈ gw := gw_t (gw_t1 (List.mem_of_getElem? (l := tables_1_1) (i := 28) (by decide +kernel))) rfl
theorem qIM_yX0_lay : (Jvm.Cond.instanceMethod yX0_lay) ∈ gw := gw_t (gw_t1 (List.mem_of_getElem? (l := tables_1_1) (i := 29) (by decide +kernel))) rfl
theorem qSE_yX0_lay : (Jvm.Cond.selects "HedgesAndDitches$Game" yX0_lay yX0_lay) ∈ gw := gw_t (gw_t1 (List.mem_of_getElem? (l := tables_1_1) (i := 30) (by decide +kernel))) rfl
theorem qCO_yX0_lay : (Jvm.Cond.code yX0_lay prog_2_method_2_code (4 : Nat) (Option.none : Option Jvm.ClassFile.FieldType)) ∈ gw := gw_t (gw_t1 (List.mem_of_getElem? (l := tables_1_1) (i := 31) (by decide +kernel))) rfl
theorem qML_RX0_47 : (Jvm.Cond.methodLink "HedgesAndDitches$Game" (47 : Nat) yX0_fieldAhead) ∈ gw := gw_t (gw_t1 (List.mem_of_getElem? (l := tables_1_1) (i := 32) (by decide +kernel))) rfl
theorem qIM_yX0_fieldAhead : (Jvm.Cond.instanceMethod yX0_fieldAhead) ∈ gw := gw_t (gw_t1 (List.mem_of_getElem? (l := tables_1_1) (i := 33) (by decide +kernel))) rfl
theorem qSE_yX0_fieldAhead : (Jvm.Cond.selects "HedgesAndDitches$Game" yX0_fieldAhead yX0_fieldAhead) ∈ gw := gw_t (gw_t1 (List.mem_of_getElem? (l := tables_1_1) (i := 34) (by decide +kernel))) rfl
theorem qCO_yX0_fieldAhead : (Jvm.Cond.code yX0_fieldAhead prog_2_method_14_code (4 : Nat) (Option.some Jvm.ClassFile.FieldType.int)) ∈ gw := gw_t (gw_t1 (List.mem_of_getElem? (l := tables_1_1) (i := 35) (by decide +kernel))) rfl
theorem qML_RX0_81 : (Jvm.Cond.methodLink "HedgesAndDitches$Game" (81 : Nat) yX0_uprightRow) ∈ gw := gw_t (gw_t1 (List.mem_of_getElem? (l := tables_1_1) (i := 36) (by decide +kernel))) rfl
theorem qIM_yX0_uprightRow : (Jvm.Cond.instanceMethod yX0_uprightRow) ∈ gw := gw_t (gw_t1 (List.mem_of_getElem? (l := tables_1_1) (i := 37) (by decide +kernel))) rfl
theorem qSE_yX0_uprightRow : (Jvm.Cond.selects "HedgesAndDitches$Game" yX0_uprightRow yX0_uprightRow) ∈ gw := gw_t (gw_t1 (List.mem_of_getElem? (l := tables_1_1) (i := 38) (by decide +kernel))) rfl
theorem qCO_yX0_uprightRow : (Jvm.Cond.code yX0_uprightRow prog_2_method_13_code (3 : Nat) (Option.some Jvm.ClassFile.FieldType.int)) ∈ gw := gw_t (gw_t1 (List.mem_of_getElem? (l := tables_1_1) (i := 39) (by decide +kernel))) rfl
theorem qML_RX0_51 : (Jvm.Cond.methodLink "HedgesAndDitches$Game" (51 : Nat) yX0_fieldBeyond) ∈ gw := gw_t (gw_t1 (List.mem_of_getElem? (l := tables_1_1) (i := 40) (by decide +kernel))) rfl
theorem qIM_yX0_fieldBeyond : (Jvm.Cond.instanceMethod yX0_fieldBeyond) ∈ gw := gw_t (gw_t1 (List.mem_of_getElem? (l := tables_1_1) (i := 41) (by decide +kernel))) rfl
theorem qSE_yX0_fieldBeyond : (Jvm.Cond.selects "HedgesAndDitches$Game" yX0_fieldBeyond yX0_fieldBeyond) ∈ gw := gw_t (gw_t1 (List.mem_of_getElem? (l := tables_1_1) (i := 42) (by decide +kernel))) rfl
theorem qCO_yX0_fieldBeyond : (Jvm.Cond.code yX0_fieldBeyond prog_2_method_15_code (4 : Nat) (Option.some Jvm.ClassFile.FieldType.int)) ∈ gw := gw_t (gw_t1 (List.mem_of_getElem? (l := tables_1_1) (i := 43) (by decide +kernel))) rfl
theorem qML_RX0_54 : (Jvm.Cond.methodLink "HedgesAndDitches$Game" (54 : Nat) yX0_clear) ∈ gw := gw_t (gw_t1 (List.mem_of_getElem? (l := tables_1_1) (i := 44) (by decide +kernel))) rfl
theorem qIM_yX0_clear : (Jvm.Cond.instanceMethod yX0_clear) ∈ gw := gw_t (gw_t1 (List.mem_of_getElem? (l := tables_1_1) (i := 45) (by decide +kernel))) rfl
theorem qSE_yX0_clear : (Jvm.Cond.selects "HedgesAndDitches$Game" yX0_clear yX0_clear) ∈ gw := gw_t (gw_t1 (List.mem_of_getElem? (l := tables_1_1) (i := 46) (by decide +kernel))) rfl
theorem qCO_yX0_clear : (Jvm.Cond.code yX0_clear prog_2_method_3_code (1 : Nat) (Option.none : Option Jvm.ClassFile.FieldType)) ∈ gw := gw_t (gw_t1 (List.mem_of_getElem? (l := tables_1_1) (i := 47) (by decide +kernel))) rfl
theorem qFL_RX0_19 : (Jvm.Cond.fieldLink "HedgesAndDitches$Game" (19 : Nat) "HedgesAndDitches$Game" "width" "I") ∈ gw := gw_t (gw_t1 (List.mem_of_getElem? (l := tables_1_1) (i := 48) (by decide +kernel))) rfl
theorem qFL_RX3_361 : (Jvm.Cond.fieldLink "HedgesAndDitches" (361 : Nat) "HedgesAndDitches$Game" "width" "I") ∈ gw := gw_t (gw_t1 (List.mem_of_getElem? (l := tables_1_1) (i := 49) (by decide +kernel))) rfl
theorem qFL_RX0_22 : (Jvm.Cond.fieldLink "HedgesAndDitches$Game" (22 : Nat) "HedgesAndDitches$Game" "height" "I") ∈ gw := gw_t (gw_t1 (List.mem_of_getElem? (l := tables_1_1) (i := 50) (by decide +kernel))) rfl
theorem qFL_RX3_364 : (Jvm.Cond.fieldLink "HedgesAndDitches" (364 : Nat) "HedgesAndDitches$Game" "height" "I") ∈ gw := gw_t (gw_t1 (List.mem_of_getElem? (l := tables_1_1) (i := 51) (by decide +kernel))) rfl
theorem qFL_RX0_25 : (Jvm.Cond.fieldLink "HedgesAndDitches$Game" (25 : Nat) "HedgesAndDitches$Game" "fields" "I") ∈ gw := gw_t (gw_t1 (List.mem_of_getElem? (l := tables_1_1) (i := 52) (by decide +kernel))) rfl
theorem qFL_RX3_277 : (Jvm.Cond.fieldLink "HedgesAndDitches" (277 : Nat) "HedgesAndDitches$Game" "fields" "I") ∈ gw := gw_t (gw_t1 (List.mem_of_getElem? (l := tables_1_1) (i := 53) (by decide +kernel))) rfl
theorem qFL_RX0_31 : (Jvm.Cond.fieldLink "HedgesAndDitches$Game" (31 : Nat) "HedgesAndDitches$Game" "edges" "I") ∈ gw := gw_t (gw_t1 (List.mem_of_getElem? (l := tables_1_1) (i := 54) (by decide +kernel))) rfl
theorem qFL_RX3_146 : (Jvm.Cond.fieldLink "HedgesAndDitches" (146 : Nat) "HedgesAndDitches$Game" "edges" "I") ∈ gw := gw_t (gw_t1 (List.mem_of_getElem? (l := tables_1_1) (i := 55) (by decide +kernel))) rfl
theorem qFL_RX0_28 : (Jvm.Cond.fieldLink "HedgesAndDitches$Game" (28 : Nat) "HedgesAndDitches$Game" "uprights" "I") ∈ gw := gw_t (gw_t1 (List.mem_of_getElem? (l := tables_1_1) (i := 56) (by decide +kernel))) rfl
theorem qFL_RX0_34 : (Jvm.Cond.fieldLink "HedgesAndDitches$Game" (34 : Nat) "HedgesAndDitches$Game" "all" "I") ∈ gw := gw_t (gw_t1 (List.mem_of_getElem? (l := tables_1_1) (i := 57) (by decide +kernel))) rfl
theorem qFL_RX3_293 : (Jvm.Cond.fieldLink "HedgesAndDitches" (293 : Nat) "HedgesAndDitches$Game" "all" "I") ∈ gw := gw_t (gw_t1 (List.mem_of_getElem? (l := tables_1_1) (i := 58) (by decide +kernel))) rfl
theorem qFL_RX0_37 : (Jvm.Cond.fieldLink "HedgesAndDitches$Game" (37 : Nat) "HedgesAndDitches$Game" "leftmost" "I") ∈ gw := gw_t (gw_t1 (List.mem_of_getElem? (l := tables_1_1) (i := 59) (by decide +kernel))) rfl
theorem qFL_RX0_40 : (Jvm.Cond.fieldLink "HedgesAndDitches$Game" (40 : Nat) "HedgesAndDitches$Game" "rightmost" "I") ∈ gw := gw_t (gw_t1 (List.mem_of_getElem? (l := tables_1_1) (i := 60) (by decide +kernel))) rfl
theorem qFL_RX0_43 : (Jvm.Cond.fieldLink "HedgesAndDitches$Game" (43 : Nat) "HedgesAndDitches$Game" "rimEdges" "J") ∈ gw := gw_t (gw_t1 (List.mem_of_getElem? (l := tables_1_1) (i := 61) (by decide +kernel))) rfl
theorem qFL_RX3_221 : (Jvm.Cond.fieldLink "HedgesAndDitches" (221 : Nat) "HedgesAndDitches$Game" "rimEdges" "J") ∈ gw := gw_t (gw_t1 (List.mem_of_getElem? (l := tables_1_1) (i := 62) (by decide +kernel))) rfl
theorem qFL_RX0_57 : (Jvm.Cond.fieldLink "HedgesAndDitches$Game" (57 : Nat) "HedgesAndDitches$Game" "hedges" "J") ∈ gw := gw_t (gw_t1 (List.mem_of_getElem? (l := tables_1_1) (i := 63) (by decide +kernel))) rfl
theorem qFL_RX3_185 : (Jvm.Cond.fieldLink "HedgesAndDitches" (185 : Nat) "HedgesAndDitches$Game" "hedges" "J") ∈ gw := gw_t (gw_t1 (List.mem_of_getElem? (l := tables_1_1) (i := 64) (by decide +kernel))) rfl
theorem qFL_RX0_60 : (Jvm.Cond.fieldLink "HedgesAndDitches$Game" (60 : Nat) "HedgesAndDitches$Game" "dug" "I") ∈ gw := gw_t (gw_t1 (List.mem_of_getElem? (l := tables_1_1) (i := 65) (by decide +kernel))) rfl
theorem qFL_RX3_189 : (Jvm.Cond.fieldLink "HedgesAndDitches" (189 : Nat) "HedgesAndDitches$Game" "dug" "I") ∈ gw := gw_t (gw_t1 (List.mem_of_getElem? (l := tables_1_1) (i := 66) (by decide +kernel))) rfl
theorem qFL_RX0_63 : (Jvm.Cond.fieldLink "HedgesAndDitches$Game" (63 : Nat) "HedgesAndDitches$Game" "ownedBy0" "I") ∈ gw := gw_t (gw_t1 (List.mem_of_getElem? (l := tables_1_1) (i := 67) (by decide +kernel))) rfl
theorem qFL_RX3_196 : (Jvm.Cond.fieldLink "HedgesAndDitches" (196 : Nat) "HedgesAndDitches$Game" "ownedBy0" "I") ∈ gw := gw_t (gw_t1 (List.mem_of_getElem? (l := tables_1_1) (i := 68) (by decide +kernel))) rfl
theorem qFL_RX0_66 : (Jvm.Cond.fieldLink "HedgesAndDitches$Game" (66 : Nat) "HedgesAndDitches$Game" "ownedBy1" "I") ∈ gw := gw_t (gw_t1 (List.mem_of_getElem? (l := tables_1_1) (i := 69) (by decide +kernel))) rfl
theorem qFL_RX3_199 : (Jvm.Cond.fieldLink "HedgesAndDitches" (199 : Nat) "HedgesAndDitches$Game" "ownedBy1" "I") ∈ gw := gw_t (gw_t1 (List.mem_of_getElem? (l := tables_1_1) (i := 70) (by decide +kernel))) rfl
theorem qFL_RX0_69 : (Jvm.Cond.fieldLink "HedgesAndDitches$Game" (69 : Nat) "HedgesAndDitches$Game" "turn" "I") ∈ gw := gw_t (gw_t1 (List.mem_of_getElem? (l := tables_1_1) (i := 71) (by decide +kernel))) rfl
theorem qFL_RX3_156 : (Jvm.Cond.fieldLink "HedgesAndDitches" (156 : Nat) "HedgesAndDitches$Game" "turn" "I") ∈ gw := gw_t (gw_t1 (List.mem_of_getElem? (l := tables_1_1) (i := 72) (by decide +kernel))) rfl
theorem qFL_RX0_72 : (Jvm.Cond.fieldLink "HedgesAndDitches$Game" (72 : Nat) "HedgesAndDitches$Game" "made" "I") ∈ gw := gw_t (gw_t1 (List.mem_of_getElem? (l := tables_1_1) (i := 73) (by decide +kernel))) rfl
theorem qFL_RX3_325 : (Jvm.Cond.fieldLink "HedgesAndDitches" (325 : Nat) "HedgesAndDitches$Game" "made" "I") ∈ gw := gw_t (gw_t1 (List.mem_of_getElem? (l := tables_1_1) (i := 74) (by decide +kernel))) rfl
theorem qFL_RX0_9 : (Jvm.Cond.fieldLink "HedgesAndDitches$Game" (9 : Nat) "HedgesAndDitches$Game" "seed" "I") ∈ gw := gw_t (gw_t1 (List.mem_of_getElem? (l := tables_1_1) (i := 75) (by decide +kernel))) rfl
theorem qFL_RX3_354 : (Jvm.Cond.fieldLink "HedgesAndDitches" (354 : Nat) "HedgesAndDitches$Game" "seed" "I") ∈ gw := gw_t (gw_t1 (List.mem_of_getElem? (l := tables_1_1) (i := 76) (by decide +kernel))) rfl
theorem qsuperclass_1_109 : (Jvm.Cond.superclass "HedgesAndDitches$Game" "java/lang/Object") ∈ lw_tbl := List.mem_append_right _ (gw_t1 (List.mem_of_getElem? (l := tables_1_1) (i := 109) (by decide +kernel)))
theorem qKL_RX3_39 : (Jvm.Cond.classLink "HedgesAndDitches" (39 : Nat) "HedgesAndDitches$Shelf") ∈ gw := gw_t (gw_t1 (List.mem_of_getElem? (l := tables_1_1) (i := 110) (by decide +kernel))) rfl
theorem qarrayOver_1_111 : (Jvm.Cond.arrayOver (Jvm.ClassFile.FieldType.object "HedgesAndDitches$Shelf")) ∈ lw_tbl := List.mem_append_right _ (gw_t1 (List.mem_of_getElem? (l := tables_1_1) (i := 111) (by decide +kernel)))
theorem qKL_RX3_45 : (Jvm.Cond.classLink "HedgesAndDitches" (45 : Nat) "HedgesAndDitches$Tape") ∈ gw := gw_t (gw_t1 (List.mem_of_getElem? (l := tables_1_1) (i := 112) (by decide +kernel))) rfl
theorem qIS_RX2 : (Jvm.Cond.instantiable "HedgesAndDitches$Tape" (4 : Nat)) ∈ gw := gw_t (gw_t1 (List.mem_of_getElem? (l := tables_1_1) (i := 113) (by decide +kernel))) rfl
theorem qMN_RX3_47 : (Jvm.Cond.methodLinkNest "HedgesAndDitches" (47 : Nat) yX2_init "HedgesAndDitches") ∈ lw_tbl := List.mem_append_right _ (gw_t1 (List.mem_of_getElem? (l := tables_1_1) (i := 114) (by decide +kernel)))
theorem qIM_yX2_init : (Jvm.Cond.instanceMethod yX2_init) ∈ gw := gw_t (gw_t1 (List.mem_of_getElem? (l := tables_1_1) (i := 115) (by decide +kernel))) rfl
theorem qCO_yX2_init : (Jvm.Cond.code yX2_init prog_4_method_1_code (1 : Nat) (Option.none : Option Jvm.ClassFile.FieldType)) ∈ gw := gw_t (gw_t1 (List.mem_of_getElem? (l := tables_1_1) (i := 116) (by decide +kernel))) rfl
theorem qML_RX2_3 : (Jvm.Cond.methodLink "HedgesAndDitches$Tape" (3 : Nat) objectInit) ∈ gw := gw_t (gw_t1 (List.mem_of_getElem? (l := tables_1_1) (i := 117) (by decide +kernel))) rfl
theorem qFL_RX2_9 : (Jvm.Cond.fieldLink "HedgesAndDitches$Tape" (9 : Nat) "HedgesAndDitches$Tape" "bytes" "[C") ∈ gw := gw_t (gw_t1 (List.mem_of_getElem? (l := tables_1_1) (i := 118) (by decide +kernel))) rfl
theorem qFL_RX2_15 : (Jvm.Cond.fieldLink "HedgesAndDitches$Tape" (15 : Nat) "HedgesAndDitches$Tape" "length" "I") ∈ gw := gw_t (gw_t1 (List.mem_of_getElem? (l := tables_1_1) (i := 119) (by decide +kernel))) rfl
theorem qFL_RX3_159 : (Jvm.Cond.fieldLink "HedgesAndDitches" (159 : Nat) "HedgesAndDitches$Tape" "length" "I") ∈ gw := gw_t (gw_t1 (List.mem_of_getElem? (l := tables_1_1) (i := 120) (by decide +kernel))) rfl
theorem qFL_RX2_19 : (Jvm.Cond.fieldLink "HedgesAndDitches$Tape" (19 : Nat) "HedgesAndDitches$Tape" "from" "I") ∈ gw := gw_t (gw_t1 (List.mem_of_getElem? (l := tables_1_1) (i := 121) (by decide +kernel))) rfl
theorem qFL_RX3_176 : (Jvm.Cond.fieldLink "HedgesAndDitches" (176 : Nat) "HedgesAndDitches$Tape" "from" "I") ∈ gw := gw_t (gw_t1 (List.mem_of_getElem? (l := tables_1_1) (i := 122) (by decide +kernel))) rfl
theorem qFL_RX2_22 : (Jvm.Cond.fieldLink "HedgesAndDitches$Tape" (22 : Nat) "HedgesAndDitches$Tape" "upto" "I") ∈ gw := gw_t (gw_t1 (List.mem_of_getElem? (l := tables_1_1) (i := 123) (by decide +kernel))) rfl
theorem qsuperclass_1_132 : (Jvm.Cond.superclass "HedgesAndDitches$Tape" "java/lang/Object") ∈ lw_tbl := List.mem_append_right _ (gw_t1 (List.mem_of_getElem? (l := tables_1_1) (i := 132) (by decide +kernel)))
theorem qarrayClass_1_133 : (Jvm.Cond.arrayClass Jvm.ClassFile.FieldType.int) ∈ gw := gw_t (gw_t1 (List.mem_of_getElem? (l := tables_1_1) (i := 133) (by decide +kernel))) rfl
theorem qarrayClass_1_134 : (Jvm.Cond.arrayClass Jvm.ClassFile.FieldType.char) ∈ gw := gw_t (gw_t1 (List.mem_of_getElem? (l := tables_1_1) (i := 134) (by decide +kernel))) rfl
theorem qIS_RX1 : (Jvm.Cond.instantiable "HedgesAndDitches$Shelf" (3 : Nat)) ∈ gw := gw_t (gw_t1 (List.mem_of_getElem? (l := tables_1_1) (i := 135) (by decide +kernel))) rfl
theorem qMN_RX3_55 : (Jvm.Cond.methodLinkNest "HedgesAndDitches" (55 : Nat) yX1_init "HedgesAndDitches") ∈ lw_tbl := List.mem_append_right _ (gw_t1 (List.mem_of_getElem? (l := tables_1_1) (i := 136) (by decide +kernel)))
theorem qIM_yX1_init : (Jvm.Cond.instanceMethod yX1_init) ∈ gw := gw_t (gw_t1 (List.mem_of_getElem? (l := tables_1_1) (i := 137) (by decide +kernel))) rfl
theorem qCO_yX1_init : (Jvm.Cond.code yX1_init prog_3_method_1_code (1 : Nat) (Option.none : Option Jvm.ClassFile.FieldType)) ∈ gw := gw_t (gw_t1 (List.mem_of_getElem? (l := tables_1_1) (i := 138) (by decide +kernel))) rfl
theorem qML_RX1_3 : (Jvm.Cond.methodLink "HedgesAndDitches$Shelf" (3 : Nat) objectInit) ∈ gw := gw_t (gw_t1 (List.mem_of_getElem? (l := tables_1_1) (i := 139) (by decide +kernel))) rfl
theorem qFL_RX1_9 : (Jvm.Cond.fieldLink "HedgesAndDitches$Shelf" (9 : Nat) "HedgesAndDitches$Shelf" "content" "I") ∈ gw := gw_t (gw_t1 (List.mem_of_getElem? (l := tables_1_1) (i := 140) (by decide +kernel))) rfl
theorem qFL_RX3_87 : (Jvm.Cond.fieldLink "HedgesAndDitches" (87 : Nat) "HedgesAndDitches$Shelf" "content" "I") ∈ gw := gw_t (gw_t1 (List.mem_of_getElem? (l := tables_1_1) (i := 141) (by decide +kernel))) rfl
theorem qFL_RX1_15 : (Jvm.Cond.fieldLink "HedgesAndDitches$Shelf" (15 : Nat) "HedgesAndDitches$Shelf" "length" "I") ∈ gw := gw_t (gw_t1 (List.mem_of_getElem? (l := tables_1_1) (i := 142) (by decide +kernel))) rfl
theorem qFL_RX3_373 : (Jvm.Cond.fieldLink "HedgesAndDitches" (373 : Nat) "HedgesAndDitches$Shelf" "length" "I") ∈ gw := gw_t (gw_t1 (List.mem_of_getElem? (l := tables_1_1) (i := 143) (by decide +kernel))) rfl
theorem qFL_RX1_18 : (Jvm.Cond.fieldLink "HedgesAndDitches$Shelf" (18 : Nat) "HedgesAndDitches$Shelf" "elements" "[J") ∈ gw := gw_t (gw_t1 (List.mem_of_getElem? (l := tables_1_1) (i := 144) (by decide +kernel))) rfl
theorem qFL_RX3_94 : (Jvm.Cond.fieldLink "HedgesAndDitches" (94 : Nat) "HedgesAndDitches$Shelf" "elements" "[J") ∈ gw := gw_t (gw_t1 (List.mem_of_getElem? (l := tables_1_1) (i := 145) (by decide +kernel))) rfl
theorem qsuperclass_1_152 : (Jvm.Cond.superclass "HedgesAndDitches$Shelf" "java/lang/Object") ∈ lw_tbl := List.mem_append_right _ (gw_t1 (List.mem_of_getElem? (l := tables_1_1) (i := 152) (by decide +kernel)))
theorem qarrayClass_1_153 : (Jvm.Cond.arrayClass Jvm.ClassFile.FieldType.long) ∈ gw := gw_t (gw_t1 (List.mem_of_getElem? (l := tables_1_1) (i := 153) (by decide +kernel))) rfl
theorem qFL_RX3_10 : (Jvm.Cond.fieldLink "HedgesAndDitches" (10 : Nat) "HedgesAndDitches" "now" "LHedgesAndDitches$Game;") ∈ gw := gw_t (gw_t1 (List.mem_of_getElem? (l := tables_1_1) (i := 154) (by decide +kernel))) rfl
theorem qFL_RX3_16 : (Jvm.Cond.fieldLink "HedgesAndDitches" (16 : Nat) "HedgesAndDitches" "thought" "LHedgesAndDitches$Game;") ∈ gw := gw_t (gw_t1 (List.mem_of_getElem? (l := tables_1_1) (i := 155) (by decide +kernel))) rfl
theorem qFL_RX3_19 : (Jvm.Cond.fieldLink "HedgesAndDitches" (19 : Nat) "HedgesAndDitches" "kept" "LHedgesAndDitches$Game;") ∈ gw := gw_t (gw_t1 (List.mem_of_getElem? (l := tables_1_1) (i := 156) (by decide +kernel))) rfl
theorem qFL_RX3_22 : (Jvm.Cond.fieldLink "HedgesAndDitches" (22 : Nat) "HedgesAndDitches" "keptCrew" "I") ∈ gw := gw_t (gw_t1 (List.mem_of_getElem? (l := tables_1_1) (i := 157) (by decide +kernel))) rfl
theorem qFL_RX3_26 : (Jvm.Cond.fieldLink "HedgesAndDitches" (26 : Nat) "HedgesAndDitches" "kinds" "[I") ∈ gw := gw_t (gw_t1 (List.mem_of_getElem? (l := tables_1_1) (i := 158) (by decide +kernel))) rfl
theorem qFL_RX3_30 : (Jvm.Cond.fieldLink "HedgesAndDitches" (30 : Nat) "HedgesAndDitches" "amounts" "[I") ∈ gw := gw_t (gw_t1 (List.mem_of_getElem? (l := tables_1_1) (i := 159) (by decide +kernel))) rfl
theorem qFL_RX3_33 : (Jvm.Cond.fieldLink "HedgesAndDitches" (33 : Nat) "HedgesAndDitches" "crew" "I") ∈ gw := gw_t (gw_t1 (List.mem_of_getElem? (l := tables_1_1) (i := 160) (by decide +kernel))) rfl
theorem qFL_RX3_36 : (Jvm.Cond.fieldLink "HedgesAndDitches" (36 : Nat) "HedgesAndDitches" "crewRead" "I") ∈ gw := gw_t (gw_t1 (List.mem_of_getElem? (l := tables_1_1) (i := 161) (by decide +kernel))) rfl
theorem qFL_RX3_41 : (Jvm.Cond.fieldLink "HedgesAndDitches" (41 : Nat) "HedgesAndDitches" "shelves" "[LHedgesAndDitches$Shelf;") ∈ gw := gw_t (gw_t1 (List.mem_of_getElem? (l := tables_1_1) (i := 162) (by decide +kernel))) rfl
theorem qFL_RX3_48 : (Jvm.Cond.fieldLink "HedgesAndDitches" (48 : Nat) "HedgesAndDitches" "tape" "LHedgesAndDitches$Tape;") ∈ gw := gw_t (gw_t1 (List.mem_of_getElem? (l := tables_1_1) (i := 163) (by decide +kernel))) rfl
theorem qFL_RX3_52 : (Jvm.Cond.fieldLink "HedgesAndDitches" (52 : Nat) "HedgesAndDitches" "refusals" "[I") ∈ gw := gw_t (gw_t1 (List.mem_of_getElem? (l := tables_1_1) (i := 164) (by decide +kernel))) rfl
theorem qsuperclass_1_187 : (Jvm.Cond.superclass "HedgesAndDitches" "java/lang/Object") ∈ lw_tbl := List.mem_append_right _ (gw_t1 (List.mem_of_getElem? (l := tables_1_1) (i := 187) (by decide +kernel)))
theorem qML_RL_13 : (Jvm.Cond.methodLink "HedgesAndDitchesLaw" (13 : Nat) yX3_row) ∈ gw := gw_t (gw_t1 (List.mem_of_getElem? (l := tables_1_1) (i := 188) (by decide +kernel))) rfl
theorem qIM_yX3_row : (Jvm.Cond.instanceMethod yX3_row) ∈ gw := gw_t (gw_t1 (List.mem_of_getElem? (l := tables_1_1) (i := 189) (by decide +kernel))) rfl
theorem qSE_yX3_row : (Jvm.Cond.selects "HedgesAndDitches" yX3_row yX3_row) ∈ gw := gw_t (gw_t1 (List.mem_of_getElem? (l := tables_1_1) (i := 190) (by decide +kernel))) rfl
theorem qCO_yX3_row : (Jvm.Cond.code yX3_row prog_1_method_2_code (5 : Nat) (Option.some Jvm.ClassFile.FieldType.int)) ∈ gw := gw_t (gw_t1 (List.mem_of_getElem? (l := tables_1_1) (i := 191) (by decide +kernel))) rfl
theorem qML_RX3_56 : (Jvm.Cond.methodLink "HedgesAndDitches" (56 : Nat) yX3_shelfAt) ∈ gw := gw_t (gw_t1 (List.mem_of_getElem? (l := tables_1_1) (i := 192) (by decide +kernel))) rfl
theorem qIM_yX3_shelfAt : (Jvm.Cond.instanceMethod yX3_shelfAt) ∈ gw := gw_t (gw_t1 (List.mem_of_getElem? (l := tables_1_1) (i := 194) (by decide +kernel))) rfl
theorem qCO_yX3_shelfAt : (Jvm.Cond.code yX3_shelfAt prog_1_method_70_code (2 : Nat) (Option.some (Jvm.ClassFile.FieldType.object "HedgesAndDitches$Shelf"))) ∈ gw := gw_t (gw_t1 (List.mem_of_getElem? (l := tables_1_1) (i := 195) (by decide +kernel))) rfl
theorem qML_RX3_60 : (Jvm.Cond.methodLink "HedgesAndDitches" (60 : Nat) yX3_refuse) ∈ gw := gw_t (gw_t1 (List.mem_of_getElem? (l := tables_1_1) (i := 196) (by decide +kernel))) rfl
theorem qIM_yX3_refuse : (Jvm.Cond.instanceMethod yX3_refuse) ∈ gw := gw_t (gw_t1 (List.mem_of_getElem? (l := tables_1_1) (i := 198) (by decide +kernel))) rfl
theorem qCO_yX3_refuse : (Jvm.Cond.code yX3_refuse prog_1_method_60_code (3 : Nat) (Option.some Jvm.ClassFile.FieldType.int)) ∈ gw := gw_t (gw_t1 (List.mem_of_getElem? (l := tables_1_1) (i := 199) (by decide +kernel))) rfl
theorem qML_RX3_64 : (Jvm.Cond.methodLink "HedgesAndDitches" (64 : Nat) yX1_layRow) ∈ gw := gw_t (gw_t1 (List.mem_of_getElem? (l := tables_1_1) (i := 200) (by decide +kernel))) rfl
theorem qIM_yX1_layRow : (Jvm.Cond.instanceMethod yX1_layRow) ∈ gw := gw_t (gw_t1 (List.mem_of_getElem? (l := tables_1_1) (i := 201) (by decide +kernel))) rfl
theorem qSE_yX1_layRow : (Jvm.Cond.selects "HedgesAndDitches$Shelf" yX1_layRow yX1_layRow) ∈ gw := gw_t (gw_t1 (List.mem_of_getElem? (l := tables_1_1) (i := 202) (by decide +kernel))) rfl
theorem qCO_yX1_layRow : (Jvm.Cond.code yX1_layRow prog_3_method_6_code (4 : Nat) (Option.none : Option Jvm.ClassFile.FieldType)) ∈ gw := gw_t (gw_t1 (List.mem_of_getElem? (l := tables_1_1) (i := 203) (by decide +kernel))) rfl
theorem qML_RL_20 : (Jvm.Cond.methodLink "HedgesAndDitchesLaw" (20 : Nat) yX3_set) ∈ gw := gw_t (gw_t1 (List.mem_of_getElem? (l := tables_1_1) (i := 204) (by decide +kernel))) rfl
theorem qIM_yX3_set : (Jvm.Cond.instanceMethod yX3_set) ∈ gw := gw_t (gw_t1 (List.mem_of_getElem? (l := tables_1_1) (i := 205) (by decide +kernel))) rfl
theorem qSE_yX3_set : (Jvm.Cond.selects "HedgesAndDitches" yX3_set yX3_set) ∈ gw := gw_t (gw_t1 (List.mem_of_getElem? (l := tables_1_1) (i := 206) (by decide +kernel))) rfl
theorem qCO_yX3_set : (Jvm.Cond.code yX3_set prog_1_method_3_code (7 : Nat) (Option.some Jvm.ClassFile.FieldType.int)) ∈ gw := gw_t (gw_t1 (List.mem_of_getElem? (l := tables_1_1) (i := 207) (by decide +kernel))) rfl
theorem qML_RX3_68 : (Jvm.Cond.methodLink "HedgesAndDitches" (68 : Nat) yX3_rowTrouble) ∈ gw := gw_t (gw_t1 (List.mem_of_getElem? (l := tables_1_1) (i := 208) (by decide +kernel))) rfl
theorem qSM_yX3_rowTrouble : (Jvm.Cond.static yX3_rowTrouble) ∈ gw := gw_t (gw_t1 (List.mem_of_getElem? (l := tables_1_1) (i := 209) (by decide +kernel))) rfl
theorem qCO_yX3_rowTrouble : (Jvm.Cond.code yX3_rowTrouble prog_1_method_71_code (1 : Nat) (Option.some Jvm.ClassFile.FieldType.int)) ∈ gw := gw_t (gw_t1 (List.mem_of_getElem? (l := tables_1_1) (i := 210) (by decide +kernel))) rfl
theorem qML_RX3_80 : (Jvm.Cond.methodLink "HedgesAndDitches" (80 : Nat) yX1_bearsPlayer) ∈ gw := gw_t (gw_t1 (List.mem_of_getElem? (l := tables_1_1) (i := 211) (by decide +kernel))) rfl
theorem qIM_yX1_bearsPlayer : (Jvm.Cond.instanceMethod yX1_bearsPlayer) ∈ gw := gw_t (gw_t1 (List.mem_of_getElem? (l := tables_1_1) (i := 212) (by decide +kernel))) rfl
theorem qSE_yX1_bearsPlayer : (Jvm.Cond.selects "HedgesAndDitches$Shelf" yX1_bearsPlayer yX1_bearsPlayer) ∈ gw := gw_t (gw_t1 (List.mem_of_getElem? (l := tables_1_1) (i := 213) (by decide +kernel))) rfl
theorem qCO_yX1_bearsPlayer : (Jvm.Cond.code yX1_bearsPlayer prog_3_method_3_code (1 : Nat) (Option.some Jvm.ClassFile.FieldType.boolean)) ∈ gw := gw_t (gw_t1 (List.mem_of_getElem? (l := tables_1_1) (i := 214) (by decide +kernel))) rfl
theorem qML_RX3_84 : (Jvm.Cond.methodLink "HedgesAndDitches" (84 : Nat) yX1_bearsRow) ∈ gw := gw_t (gw_t1 (List.mem_of_getElem? (l := tables_1_1) (i := 215) (by decide +kernel))) rfl
theorem qIM_yX1_bearsRow : (Jvm.Cond.instanceMethod yX1_bearsRow) ∈ gw := gw_t (gw_t1 (List.mem_of_getElem? (l := tables_1_1) (i := 216) (by decide +kernel))) rfl
theorem qSE_yX1_bearsRow : (Jvm.Cond.selects "HedgesAndDitches$Shelf" yX1_bearsRow yX1_bearsRow) ∈ gw := gw_t (gw_t1 (List.mem_of_getElem? (l := tables_1_1) (i := 217) (by decide +kernel))) rfl
theorem qCO_yX1_bearsRow : (Jvm.Cond.code yX1_bearsRow prog_3_method_2_code (1 : Nat) (Option.some Jvm.ClassFile.FieldType.boolean)) ∈ gw := gw_t (gw_t1 (List.mem_of_getElem? (l := tables_1_1) (i := 218) (by decide +kernel))) rfl
theorem qML_RX3_72 : (Jvm.Cond.methodLink "HedgesAndDitches" (72 : Nat) yX1_reaches) ∈ gw := gw_t (gw_t1 (List.mem_of_getElem? (l := tables_1_1) (i := 219) (by decide +kernel))) rfl
theorem qIM_yX1_reaches : (Jvm.Cond.instanceMethod yX1_reaches) ∈ gw := gw_t (gw_t1 (List.mem_of_getElem? (l := tables_1_1) (i := 220) (by decide +kernel))) rfl
theorem qSE_yX1_reaches : (Jvm.Cond.selects "HedgesAndDitches$Shelf" yX1_reaches yX1_reaches) ∈ gw := gw_t (gw_t1 (List.mem_of_getElem? (l := tables_1_1) (i := 221) (by decide +kernel))) rfl
theorem qCO_yX1_reaches : (Jvm.Cond.code yX1_reaches prog_3_method_7_code (2 : Nat) (Option.some Jvm.ClassFile.FieldType.boolean)) ∈ gw := gw_t (gw_t1 (List.mem_of_getElem? (l := tables_1_1) (i := 222) (by decide +kernel))) rfl
theorem qML_RX3_76 : (Jvm.Cond.methodLink "HedgesAndDitches" (76 : Nat) yX1_put) ∈ gw := gw_t (gw_t1 (List.mem_of_getElem? (l := tables_1_1) (i := 223) (by decide +kernel))) rfl
theorem qIM_yX1_put : (Jvm.Cond.instanceMethod yX1_put) ∈ gw := gw_t (gw_t1 (List.mem_of_getElem? (l := tables_1_1) (i := 224) (by decide +kernel))) rfl
theorem qSE_yX1_put : (Jvm.Cond.selects "HedgesAndDitches$Shelf" yX1_put yX1_put) ∈ gw := gw_t (gw_t1 (List.mem_of_getElem? (l := tables_1_1) (i := 225) (by decide +kernel))) rfl
theorem qCO_yX1_put : (Jvm.Cond.code yX1_put prog_3_method_10_code (4 : Nat) (Option.none : Option Jvm.ClassFile.FieldType)) ∈ gw := gw_t (gw_t1 (List.mem_of_getElem? (l := tables_1_1) (i := 226) (by decide +kernel))) rfl
theorem qML_RX1_22 : (Jvm.Cond.methodLink "HedgesAndDitches$Shelf" (22 : Nat) yX1_reaches) ∈ gw := gw_t (gw_t1 (List.mem_of_getElem? (l := tables_1_1) (i := 227) (by decide +kernel))) rfl
theorem qML_RX1_26 : (Jvm.Cond.methodLink "HedgesAndDitches$Shelf" (26 : Nat) yX1_lowestBits) ∈ gw := gw_t (gw_t1 (List.mem_of_getElem? (l := tables_1_1) (i := 228) (by decide +kernel))) rfl
theorem qIM_yX1_lowestBits : (Jvm.Cond.instanceMethod yX1_lowestBits) ∈ gw := gw_t (gw_t1 (List.mem_of_getElem? (l := tables_1_1) (i := 229) (by decide +kernel))) rfl
theorem qSE_yX1_lowestBits : (Jvm.Cond.selects "HedgesAndDitches$Shelf" yX1_lowestBits yX1_lowestBits) ∈ gw := gw_t (gw_t1 (List.mem_of_getElem? (l := tables_1_1) (i := 230) (by decide +kernel))) rfl
theorem qCO_yX1_lowestBits : (Jvm.Cond.code yX1_lowestBits prog_3_method_11_code (3 : Nat) (Option.some Jvm.ClassFile.FieldType.long)) ∈ gw := gw_t (gw_t1 (List.mem_of_getElem? (l := tables_1_1) (i := 231) (by decide +kernel))) rfl
theorem qMN_RX1_30 : (Jvm.Cond.methodLinkNest "HedgesAndDitches$Shelf" (30 : Nat) yX3_truth "HedgesAndDitches") ∈ lw_tbl := List.mem_append_right _ (gw_t1 (List.mem_of_getElem? (l := tables_1_1) (i := 232) (by decide +kernel)))
theorem qSM_yX3_truth : (Jvm.Cond.static yX3_truth) ∈ gw := gw_t (gw_t1 (List.mem_of_getElem? (l := tables_1_1) (i := 233) (by decide +kernel))) rfl
theorem qCO_yX3_truth : (Jvm.Cond.code yX3_truth prog_1_method_63_code (1 : Nat) (Option.some Jvm.ClassFile.FieldType.int)) ∈ gw := gw_t (gw_t1 (List.mem_of_getElem? (l := tables_1_1) (i := 234) (by decide +kernel))) rfl
theorem qML_RL_25 : (Jvm.Cond.methodLink "HedgesAndDitchesLaw" (25 : Nat) yX3_copy) ∈ gw := gw_t (gw_t1 (List.mem_of_getElem? (l := tables_1_1) (i := 235) (by decide +kernel))) rfl
theorem qIM_yX3_copy : (Jvm.Cond.instanceMethod yX3_copy) ∈ gw := gw_t (gw_t1 (List.mem_of_getElem? (l := tables_1_1) (i := 236) (by decide +kernel))) rfl
theorem qSE_yX3_copy : (Jvm.Cond.selects "HedgesAndDitches" yX3_copy yX3_copy) ∈ gw := gw_t (gw_t1 (List.mem_of_getElem? (l := tables_1_1) (i := 237) (by decide +kernel))) rfl
theorem qCO_yX3_copy : (Jvm.Cond.code yX3_copy prog_1_method_4_code (8 : Nat) (Option.some Jvm.ClassFile.FieldType.int)) ∈ gw := gw_t (gw_t1 (List.mem_of_getElem? (l := tables_1_1) (i := 238) (by decide +kernel))) rfl
theorem qML_RX3_90 : (Jvm.Cond.methodLink "HedgesAndDitches" (90 : Nat) yX1_reachesSpan) ∈ gw := gw_t (gw_t1 (List.mem_of_getElem? (l := tables_1_1) (i := 239) (by decide +kernel))) rfl
theorem qIM_yX1_reachesSpan : (Jvm.Cond.instanceMethod yX1_reachesSpan) ∈ gw := gw_t (gw_t2 (List.mem_of_getElem? (l := tables_1_2) (i := 0) (by decide +kernel))) rfl
theorem qSE_yX1_reachesSpan : (Jvm.Cond.selects "HedgesAndDitches$Shelf" yX1_reachesSpan yX1_reachesSpan) ∈ gw := gw_t (gw_t2 (List.mem_of_getElem? (l := tables_1_2) (i := 1) (by decide +kernel))) rfl
theorem qCO_yX1_reachesSpan : (Jvm.Cond.code yX1_reachesSpan prog_3_method_8_code (3 : Nat) (Option.some Jvm.ClassFile.FieldType.boolean)) ∈ gw := gw_t (gw_t2 (List.mem_of_getElem? (l := tables_1_2) (i := 2) (by decide +kernel))) rfl
theorem qML_RX3_98 : (Jvm.Cond.methodLink "HedgesAndDitches" (98 : Nat) ({ cls := "java/lang/System", name := "arraycopy", desc := "(Ljava/lang/Object;ILjava/lang/Object;II)V" } : Jvm.MethodName)) ∈ gw := gw_t (gw_t2 (List.mem_of_getElem? (l := tables_1_2) (i := 3) (by decide +kernel))) rfl
theorem qSM____cls_____java_lang_System___name_____arraycopy___desc______Ljava_lang_Object_ILjava_lang_Object_II_V______Jvm_MethodName_ : (Jvm.Cond.static ({ cls := "java/lang/System", name := "arraycopy", desc := "(Ljava/lang/Object;ILjava/lang/Object;II)V" } : Jvm.MethodName)) ∈ gw := gw_t (gw_t2 (List.mem_of_getElem? (l := tables_1_2) (i := 4) (by decide +kernel))) rfl
theorem qNA____cls_____java_lang_System___name_____arraycopy___desc______Ljava_lang_Object_ILjava_lang_Object_II_V______Jvm_MethodName_ : (Jvm.Cond.native ({ cls := "java/lang/System", name := "arraycopy", desc := "(Ljava/lang/Object;ILjava/lang/Object;II)V" } : Jvm.MethodName)) ∈ gw := gw_t (gw_t2 (List.mem_of_getElem? (l := tables_1_2) (i := 5) (by decide +kernel))) rfl
theorem qML_RL_30 : (Jvm.Cond.methodLink "HedgesAndDitchesLaw" (30 : Nat) yX3_element) ∈ gw := gw_t (gw_t2 (List.mem_of_getElem? (l := tables_1_2) (i := 6) (by decide +kernel))) rfl
theorem qIM_yX3_element : (Jvm.Cond.instanceMethod yX3_element) ∈ gw := gw_t (gw_t2 (List.mem_of_getElem? (l := tables_1_2) (i := 7) (by decide +kernel))) rfl
theorem qSE_yX3_element : (Jvm.Cond.selects "HedgesAndDitches" yX3_element yX3_element) ∈ gw := gw_t (gw_t2 (List.mem_of_getElem? (l := tables_1_2) (i := 8) (by decide +kernel))) rfl
theorem qCO_yX3_element : (Jvm.Cond.code yX3_element prog_1_method_5_code (4 : Nat) (Option.some Jvm.ClassFile.FieldType.long)) ∈ gw := gw_t (gw_t2 (List.mem_of_getElem? (l := tables_1_2) (i := 9) (by decide +kernel))) rfl
theorem qML_RX3_104 : (Jvm.Cond.methodLink "HedgesAndDitches" (104 : Nat) yX1_elementAt) ∈ gw := gw_t (gw_t2 (List.mem_of_getElem? (l := tables_1_2) (i := 10) (by decide +kernel))) rfl
theorem qIM_yX1_elementAt : (Jvm.Cond.instanceMethod yX1_elementAt) ∈ gw := gw_t (gw_t2 (List.mem_of_getElem? (l := tables_1_2) (i := 11) (by decide +kernel))) rfl
theorem qSE_yX1_elementAt : (Jvm.Cond.selects "HedgesAndDitches$Shelf" yX1_elementAt yX1_elementAt) ∈ gw := gw_t (gw_t2 (List.mem_of_getElem? (l := tables_1_2) (i := 12) (by decide +kernel))) rfl
theorem qCO_yX1_elementAt : (Jvm.Cond.code yX1_elementAt prog_3_method_9_code (2 : Nat) (Option.some Jvm.ClassFile.FieldType.long)) ∈ gw := gw_t (gw_t2 (List.mem_of_getElem? (l := tables_1_2) (i := 13) (by decide +kernel))) rfl
theorem qML_RL_35 : (Jvm.Cond.methodLink "HedgesAndDitchesLaw" (35 : Nat) yX3_holds) ∈ gw := gw_t (gw_t2 (List.mem_of_getElem? (l := tables_1_2) (i := 14) (by decide +kernel))) rfl
theorem qIM_yX3_holds : (Jvm.Cond.instanceMethod yX3_holds) ∈ gw := gw_t (gw_t2 (List.mem_of_getElem? (l := tables_1_2) (i := 15) (by decide +kernel))) rfl
theorem qSE_yX3_holds : (Jvm.Cond.selects "HedgesAndDitches" yX3_holds yX3_holds) ∈ gw := gw_t (gw_t2 (List.mem_of_getElem? (l := tables_1_2) (i := 16) (by decide +kernel))) rfl
theorem qCO_yX3_holds : (Jvm.Cond.code yX3_holds prog_1_method_6_code (3 : Nat) (Option.some Jvm.ClassFile.FieldType.int)) ∈ gw := gw_t (gw_t2 (List.mem_of_getElem? (l := tables_1_2) (i := 17) (by decide +kernel))) rfl
theorem qML_RL_40 : (Jvm.Cond.methodLink "HedgesAndDitchesLaw" (40 : Nat) yX3_show) ∈ gw := gw_t (gw_t2 (List.mem_of_getElem? (l := tables_1_2) (i := 18) (by decide +kernel))) rfl
theorem qIM_yX3_show : (Jvm.Cond.instanceMethod yX3_show) ∈ gw := gw_t (gw_t2 (List.mem_of_getElem? (l := tables_1_2) (i := 19) (by decide +kernel))) rfl
theorem qSE_yX3_show : (Jvm.Cond.selects "HedgesAndDitches" yX3_show yX3_show) ∈ gw := gw_t (gw_t2 (List.mem_of_getElem? (l := tables_1_2) (i := 20) (by decide +kernel))) rfl
theorem qCO_yX3_show : (Jvm.Cond.code yX3_show prog_1_method_7_code (4 : Nat) (Option.some Jvm.ClassFile.FieldType.int)) ∈ gw := gw_t (gw_t2 (List.mem_of_getElem? (l := tables_1_2) (i := 21) (by decide +kernel))) rfl
theorem qML_RX3_108 : (Jvm.Cond.methodLink "HedgesAndDitches" (108 : Nat) yX3_isPlayer) ∈ gw := gw_t (gw_t2 (List.mem_of_getElem? (l := tables_1_2) (i := 22) (by decide +kernel))) rfl
theorem qIM_yX3_isPlayer : (Jvm.Cond.instanceMethod yX3_isPlayer) ∈ gw := gw_t (gw_t2 (List.mem_of_getElem? (l := tables_1_2) (i := 24) (by decide +kernel))) rfl
theorem qCO_yX3_isPlayer : (Jvm.Cond.code yX3_isPlayer prog_1_method_76_code (2 : Nat) (Option.some Jvm.ClassFile.FieldType.boolean)) ∈ gw := gw_t (gw_t2 (List.mem_of_getElem? (l := tables_1_2) (i := 25) (by decide +kernel))) rfl
theorem qML_RX3_111 : (Jvm.Cond.methodLink "HedgesAndDitches" (111 : Nat) yX1_empty) ∈ gw := gw_t (gw_t2 (List.mem_of_getElem? (l := tables_1_2) (i := 26) (by decide +kernel))) rfl
theorem qIM_yX1_empty : (Jvm.Cond.instanceMethod yX1_empty) ∈ gw := gw_t (gw_t2 (List.mem_of_getElem? (l := tables_1_2) (i := 27) (by decide +kernel))) rfl
theorem qSE_yX1_empty : (Jvm.Cond.selects "HedgesAndDitches$Shelf" yX1_empty yX1_empty) ∈ gw := gw_t (gw_t2 (List.mem_of_getElem? (l := tables_1_2) (i := 28) (by decide +kernel))) rfl
theorem qCO_yX1_empty : (Jvm.Cond.code yX1_empty prog_3_method_4_code (1 : Nat) (Option.none : Option Jvm.ClassFile.FieldType)) ∈ gw := gw_t (gw_t2 (List.mem_of_getElem? (l := tables_1_2) (i := 29) (by decide +kernel))) rfl
theorem qML_RX3_114 : (Jvm.Cond.methodLink "HedgesAndDitches" (114 : Nat) yX1_bear) ∈ gw := gw_t (gw_t2 (List.mem_of_getElem? (l := tables_1_2) (i := 30) (by decide +kernel))) rfl
theorem qIM_yX1_bear : (Jvm.Cond.instanceMethod yX1_bear) ∈ gw := gw_t (gw_t2 (List.mem_of_getElem? (l := tables_1_2) (i := 31) (by decide +kernel))) rfl
theorem qSE_yX1_bear : (Jvm.Cond.selects "HedgesAndDitches$Shelf" yX1_bear yX1_bear) ∈ gw := gw_t (gw_t2 (List.mem_of_getElem? (l := tables_1_2) (i := 32) (by decide +kernel))) rfl
theorem qCO_yX1_bear : (Jvm.Cond.code yX1_bear prog_3_method_5_code (2 : Nat) (Option.none : Option Jvm.ClassFile.FieldType)) ∈ gw := gw_t (gw_t2 (List.mem_of_getElem? (l := tables_1_2) (i := 33) (by decide +kernel))) rfl
theorem qML_RL_45 : (Jvm.Cond.methodLink "HedgesAndDitchesLaw" (45 : Nat) yX3_says) ∈ gw := gw_t (gw_t2 (List.mem_of_getElem? (l := tables_1_2) (i := 34) (by decide +kernel))) rfl
theorem qIM_yX3_says : (Jvm.Cond.instanceMethod yX3_says) ∈ gw := gw_t (gw_t2 (List.mem_of_getElem? (l := tables_1_2) (i := 35) (by decide +kernel))) rfl
theorem qSE_yX3_says : (Jvm.Cond.selects "HedgesAndDitches" yX3_says yX3_says) ∈ gw := gw_t (gw_t2 (List.mem_of_getElem? (l := tables_1_2) (i := 36) (by decide +kernel))) rfl
theorem qCO_yX3_says : (Jvm.Cond.code yX3_says prog_1_method_8_code (5 : Nat) (Option.some Jvm.ClassFile.FieldType.int)) ∈ gw := gw_t (gw_t2 (List.mem_of_getElem? (l := tables_1_2) (i := 37) (by decide +kernel))) rfl
theorem qML_RX3_118 : (Jvm.Cond.methodLink "HedgesAndDitches" (118 : Nat) yX3_kindOf) ∈ gw := gw_t (gw_t2 (List.mem_of_getElem? (l := tables_1_2) (i := 38) (by decide +kernel))) rfl
theorem qIM_yX3_kindOf : (Jvm.Cond.instanceMethod yX3_kindOf) ∈ gw := gw_t (gw_t2 (List.mem_of_getElem? (l := tables_1_2) (i := 40) (by decide +kernel))) rfl
theorem qCO_yX3_kindOf : (Jvm.Cond.code yX3_kindOf prog_1_method_77_code (2 : Nat) (Option.some Jvm.ClassFile.FieldType.int)) ∈ gw := gw_t (gw_t2 (List.mem_of_getElem? (l := tables_1_2) (i := 41) (by decide +kernel))) rfl
theorem qML_RX3_121 : (Jvm.Cond.methodLink "HedgesAndDitches" (121 : Nat) yX3_isUnder) ∈ gw := gw_t (gw_t2 (List.mem_of_getElem? (l := tables_1_2) (i := 42) (by decide +kernel))) rfl
theorem qSM_yX3_isUnder : (Jvm.Cond.static yX3_isUnder) ∈ gw := gw_t (gw_t2 (List.mem_of_getElem? (l := tables_1_2) (i := 43) (by decide +kernel))) rfl
theorem qCO_yX3_isUnder : (Jvm.Cond.code yX3_isUnder prog_1_method_80_code (4 : Nat) (Option.some Jvm.ClassFile.FieldType.boolean)) ∈ gw := gw_t (gw_t2 (List.mem_of_getElem? (l := tables_1_2) (i := 44) (by decide +kernel))) rfl
theorem qFL_RX3_377 : (Jvm.Cond.fieldLink "HedgesAndDitches" (377 : Nat) "HedgesAndDitches" "KIND_ABOVE" "[I") ∈ gw := gw_t (gw_t2 (List.mem_of_getElem? (l := tables_1_2) (i := 45) (by decide +kernel))) rfl
theorem qlaysStatic_2_46 : (Jvm.Cond.laysStatic "HedgesAndDitches" "KIND_ABOVE" "[I") ∈ lw_tbl := List.mem_append_right _ (gw_t2 (List.mem_of_getElem? (l := tables_1_2) (i := 46) (by decide +kernel)))
theorem qML_RX3_124 : (Jvm.Cond.methodLink "HedgesAndDitches" (124 : Nat) yX3_amountOf) ∈ gw := gw_t (gw_t2 (List.mem_of_getElem? (l := tables_1_2) (i := 47) (by decide +kernel))) rfl
theorem qIM_yX3_amountOf : (Jvm.Cond.instanceMethod yX3_amountOf) ∈ gw := gw_t (gw_t2 (List.mem_of_getElem? (l := tables_1_2) (i := 49) (by decide +kernel))) rfl
theorem qCO_yX3_amountOf : (Jvm.Cond.code yX3_amountOf prog_1_method_78_code (2 : Nat) (Option.some Jvm.ClassFile.FieldType.int)) ∈ gw := gw_t (gw_t2 (List.mem_of_getElem? (l := tables_1_2) (i := 50) (by decide +kernel))) rfl
theorem qML_RX3_127 : (Jvm.Cond.methodLink "HedgesAndDitches" (127 : Nat) yX0_openSlots) ∈ gw := gw_t (gw_t2 (List.mem_of_getElem? (l := tables_1_2) (i := 51) (by decide +kernel))) rfl
theorem qIM_yX0_openSlots : (Jvm.Cond.instanceMethod yX0_openSlots) ∈ gw := gw_t (gw_t2 (List.mem_of_getElem? (l := tables_1_2) (i := 52) (by decide +kernel))) rfl
theorem qSE_yX0_openSlots : (Jvm.Cond.selects "HedgesAndDitches$Game" yX0_openSlots yX0_openSlots) ∈ gw := gw_t (gw_t2 (List.mem_of_getElem? (l := tables_1_2) (i := 53) (by decide +kernel))) rfl
theorem qCO_yX0_openSlots : (Jvm.Cond.code yX0_openSlots prog_2_method_30_code (1 : Nat) (Option.some Jvm.ClassFile.FieldType.long)) ∈ gw := gw_t (gw_t2 (List.mem_of_getElem? (l := tables_1_2) (i := 54) (by decide +kernel))) rfl
theorem qML_RX0_116 : (Jvm.Cond.methodLink "HedgesAndDitches$Game" (116 : Nat) yX0_freeEdges) ∈ gw := gw_t (gw_t2 (List.mem_of_getElem? (l := tables_1_2) (i := 55) (by decide +kernel))) rfl
theorem qIM_yX0_freeEdges : (Jvm.Cond.instanceMethod yX0_freeEdges) ∈ gw := gw_t (gw_t2 (List.mem_of_getElem? (l := tables_1_2) (i := 56) (by decide +kernel))) rfl
theorem qSE_yX0_freeEdges : (Jvm.Cond.selects "HedgesAndDitches$Game" yX0_freeEdges yX0_freeEdges) ∈ gw := gw_t (gw_t2 (List.mem_of_getElem? (l := tables_1_2) (i := 57) (by decide +kernel))) rfl
theorem qCO_yX0_freeEdges : (Jvm.Cond.code yX0_freeEdges prog_2_method_28_code (1 : Nat) (Option.some Jvm.ClassFile.FieldType.long)) ∈ gw := gw_t (gw_t2 (List.mem_of_getElem? (l := tables_1_2) (i := 58) (by decide +kernel))) rfl
theorem qCL_RX0_110 : (Jvm.Cond.constantLong "HedgesAndDitches$Game" (110 : Nat) (-1 : Int64)) ∈ gw := gw_t (gw_t2 (List.mem_of_getElem? (l := tables_1_2) (i := 59) (by decide +kernel))) rfl
theorem qML_RX0_120 : (Jvm.Cond.methodLink "HedgesAndDitches$Game" (120 : Nat) yX0_softFields) ∈ gw := gw_t (gw_t2 (List.mem_of_getElem? (l := tables_1_2) (i := 60) (by decide +kernel))) rfl
theorem qIM_yX0_softFields : (Jvm.Cond.instanceMethod yX0_softFields) ∈ gw := gw_t (gw_t2 (List.mem_of_getElem? (l := tables_1_2) (i := 61) (by decide +kernel))) rfl
theorem qSE_yX0_softFields : (Jvm.Cond.selects "HedgesAndDitches$Game" yX0_softFields yX0_softFields) ∈ gw := gw_t (gw_t2 (List.mem_of_getElem? (l := tables_1_2) (i := 62) (by decide +kernel))) rfl
theorem qCO_yX0_softFields : (Jvm.Cond.code yX0_softFields prog_2_method_29_code (1 : Nat) (Option.some Jvm.ClassFile.FieldType.int)) ∈ gw := gw_t (gw_t2 (List.mem_of_getElem? (l := tables_1_2) (i := 63) (by decide +kernel))) rfl
theorem qML_RX0_112 : (Jvm.Cond.methodLink "HedgesAndDitches$Game" (112 : Nat) yX0_shutFields) ∈ gw := gw_t (gw_t2 (List.mem_of_getElem? (l := tables_1_2) (i := 64) (by decide +kernel))) rfl
theorem qIM_yX0_shutFields : (Jvm.Cond.instanceMethod yX0_shutFields) ∈ gw := gw_t (gw_t2 (List.mem_of_getElem? (l := tables_1_2) (i := 65) (by decide +kernel))) rfl
theorem qSE_yX0_shutFields : (Jvm.Cond.selects "HedgesAndDitches$Game" yX0_shutFields yX0_shutFields) ∈ gw := gw_t (gw_t2 (List.mem_of_getElem? (l := tables_1_2) (i := 66) (by decide +kernel))) rfl
theorem qCO_yX0_shutFields : (Jvm.Cond.code yX0_shutFields prog_2_method_34_code (1 : Nat) (Option.some Jvm.ClassFile.FieldType.int)) ∈ gw := gw_t (gw_t2 (List.mem_of_getElem? (l := tables_1_2) (i := 67) (by decide +kernel))) rfl
theorem qML_RX3_131 : (Jvm.Cond.methodLink "HedgesAndDitches" (131 : Nat) yJ13_bitCount_95d88) ∈ gw := gw_t (gw_t2 (List.mem_of_getElem? (l := tables_1_2) (i := 68) (by decide +kernel))) rfl
theorem qSM_yJ13_bitCount_95d88 : (Jvm.Cond.static yJ13_bitCount_95d88) ∈ gw := gw_t (gw_t2 (List.mem_of_getElem? (l := tables_1_2) (i := 69) (by decide +kernel))) rfl
theorem qCO_yJ13_bitCount_95d88 : (Jvm.Cond.code yJ13_bitCount_95d88 prog_8_method_50_code (2 : Nat) (Option.some Jvm.ClassFile.FieldType.int)) ∈ gw := gw_t (gw_t2 (List.mem_of_getElem? (l := tables_1_2) (i := 70) (by decide +kernel))) rfl
theorem qCL_RJ13_314 : (Jvm.Cond.constantLong "java/lang/Long" (314 : Nat) (6148914691236517205 : Int64)) ∈ gw := gw_t (gw_t2 (List.mem_of_getElem? (l := tables_1_2) (i := 71) (by decide +kernel))) rfl
theorem qCL_RJ13_316 : (Jvm.Cond.constantLong "java/lang/Long" (316 : Nat) (3689348814741910323 : Int64)) ∈ gw := gw_t (gw_t2 (List.mem_of_getElem? (l := tables_1_2) (i := 72) (by decide +kernel))) rfl
theorem qCL_RJ13_318 : (Jvm.Cond.constantLong "java/lang/Long" (318 : Nat) (1085102592571150095 : Int64)) ∈ gw := gw_t (gw_t2 (List.mem_of_getElem? (l := tables_1_2) (i := 73) (by decide +kernel))) rfl
theorem qML_RX3_137 : (Jvm.Cond.methodLink "HedgesAndDitches" (137 : Nat) yX3_thoughtChoice) ∈ gw := gw_t (gw_t2 (List.mem_of_getElem? (l := tables_1_2) (i := 74) (by decide +kernel))) rfl
theorem qIM_yX3_thoughtChoice : (Jvm.Cond.instanceMethod yX3_thoughtChoice) ∈ gw := gw_t (gw_t2 (List.mem_of_getElem? (l := tables_1_2) (i := 76) (by decide +kernel))) rfl
theorem qCO_yX3_thoughtChoice : (Jvm.Cond.code yX3_thoughtChoice prog_1_method_82_code (2 : Nat) (Option.some Jvm.ClassFile.FieldType.int)) ∈ gw := gw_t (gw_t2 (List.mem_of_getElem? (l := tables_1_2) (i := 77) (by decide +kernel))) rfl
theorem qML_RX3_165 : (Jvm.Cond.methodLink "HedgesAndDitches" (165 : Nat) yX0_become) ∈ gw := gw_t (gw_t2 (List.mem_of_getElem? (l := tables_1_2) (i := 78) (by decide +kernel))) rfl
theorem qIM_yX0_become : (Jvm.Cond.instanceMethod yX0_become) ∈ gw := gw_t (gw_t2 (List.mem_of_getElem? (l := tables_1_2) (i := 79) (by decide +kernel))) rfl
theorem qSE_yX0_become : (Jvm.Cond.selects "HedgesAndDitches$Game" yX0_become yX0_become) ∈ gw := gw_t (gw_t2 (List.mem_of_getElem? (l := tables_1_2) (i := 80) (by decide +kernel))) rfl
theorem qCO_yX0_become : (Jvm.Cond.code yX0_become prog_2_method_4_code (2 : Nat) (Option.none : Option Jvm.ClassFile.FieldType)) ∈ gw := gw_t (gw_t2 (List.mem_of_getElem? (l := tables_1_2) (i := 81) (by decide +kernel))) rfl
theorem qML_RX3_344 : (Jvm.Cond.methodLink "HedgesAndDitches" (344 : Nat) yX3_chosenSlot) ∈ gw := gw_t (gw_t2 (List.mem_of_getElem? (l := tables_1_2) (i := 82) (by decide +kernel))) rfl
theorem qIM_yX3_chosenSlot : (Jvm.Cond.instanceMethod yX3_chosenSlot) ∈ gw := gw_t (gw_t2 (List.mem_of_getElem? (l := tables_1_2) (i := 84) (by decide +kernel))) rfl
theorem qCO_yX3_chosenSlot : (Jvm.Cond.code yX3_chosenSlot prog_1_method_81_code (7 : Nat) (Option.some Jvm.ClassFile.FieldType.int)) ∈ gw := gw_t (gw_t2 (List.mem_of_getElem? (l := tables_1_2) (i := 85) (by decide +kernel))) rfl
theorem qML_RX3_380 : (Jvm.Cond.methodLink "HedgesAndDitches" (380 : Nat) yX0_shuttingEdges) ∈ gw := gw_t (gw_t2 (List.mem_of_getElem? (l := tables_1_2) (i := 86) (by decide +kernel))) rfl
theorem qIM_yX0_shuttingEdges : (Jvm.Cond.instanceMethod yX0_shuttingEdges) ∈ gw := gw_t (gw_t2 (List.mem_of_getElem? (l := tables_1_2) (i := 87) (by decide +kernel))) rfl
theorem qSE_yX0_shuttingEdges : (Jvm.Cond.selects "HedgesAndDitches$Game" yX0_shuttingEdges yX0_shuttingEdges) ∈ gw := gw_t (gw_t2 (List.mem_of_getElem? (l := tables_1_2) (i := 88) (by decide +kernel))) rfl
theorem qCO_yX0_shuttingEdges : (Jvm.Cond.code yX0_shuttingEdges prog_2_method_42_code (1 : Nat) (Option.some Jvm.ClassFile.FieldType.long)) ∈ gw := gw_t (gw_t2 (List.mem_of_getElem? (l := tables_1_2) (i := 89) (by decide +kernel))) rfl
theorem qML_RX0_152 : (Jvm.Cond.methodLink "HedgesAndDitches$Game" (152 : Nat) yX0_withThree) ∈ gw := gw_t (gw_t2 (List.mem_of_getElem? (l := tables_1_2) (i := 90) (by decide +kernel))) rfl
theorem qIM_yX0_withThree : (Jvm.Cond.instanceMethod yX0_withThree) ∈ gw := gw_t (gw_t2 (List.mem_of_getElem? (l := tables_1_2) (i := 91) (by decide +kernel))) rfl
theorem qSE_yX0_withThree : (Jvm.Cond.selects "HedgesAndDitches$Game" yX0_withThree yX0_withThree) ∈ gw := gw_t (gw_t2 (List.mem_of_getElem? (l := tables_1_2) (i := 92) (by decide +kernel))) rfl
theorem qCO_yX0_withThree : (Jvm.Cond.code yX0_withThree prog_2_method_21_code (7 : Nat) (Option.some Jvm.ClassFile.FieldType.int)) ∈ gw := gw_t (gw_t2 (List.mem_of_getElem? (l := tables_1_2) (i := 93) (by decide +kernel))) rfl
theorem qML_RX0_84 : (Jvm.Cond.methodLink "HedgesAndDitches$Game" (84 : Nat) yX0_withAbove) ∈ gw := gw_t (gw_t2 (List.mem_of_getElem? (l := tables_1_2) (i := 94) (by decide +kernel))) rfl
theorem qIM_yX0_withAbove : (Jvm.Cond.instanceMethod yX0_withAbove) ∈ gw := gw_t (gw_t2 (List.mem_of_getElem? (l := tables_1_2) (i := 95) (by decide +kernel))) rfl
theorem qSE_yX0_withAbove : (Jvm.Cond.selects "HedgesAndDitches$Game" yX0_withAbove yX0_withAbove) ∈ gw := gw_t (gw_t2 (List.mem_of_getElem? (l := tables_1_2) (i := 96) (by decide +kernel))) rfl
theorem qCO_yX0_withAbove : (Jvm.Cond.code yX0_withAbove prog_2_method_16_code (3 : Nat) (Option.some Jvm.ClassFile.FieldType.int)) ∈ gw := gw_t (gw_t2 (List.mem_of_getElem? (l := tables_1_2) (i := 97) (by decide +kernel))) rfl
theorem qML_RX0_88 : (Jvm.Cond.methodLink "HedgesAndDitches$Game" (88 : Nat) yX0_withBelow) ∈ gw := gw_t (gw_t2 (List.mem_of_getElem? (l := tables_1_2) (i := 98) (by decide +kernel))) rfl
theorem qIM_yX0_withBelow : (Jvm.Cond.instanceMethod yX0_withBelow) ∈ gw := gw_t (gw_t2 (List.mem_of_getElem? (l := tables_1_2) (i := 99) (by decide +kernel))) rfl
theorem qSE_yX0_withBelow : (Jvm.Cond.selects "HedgesAndDitches$Game" yX0_withBelow yX0_withBelow) ∈ gw := gw_t (gw_t2 (List.mem_of_getElem? (l := tables_1_2) (i := 100) (by decide +kernel))) rfl
theorem qCO_yX0_withBelow : (Jvm.Cond.code yX0_withBelow prog_2_method_17_code (3 : Nat) (Option.some Jvm.ClassFile.FieldType.int)) ∈ gw := gw_t (gw_t2 (List.mem_of_getElem? (l := tables_1_2) (i := 101) (by decide +kernel))) rfl
theorem qML_RX0_91 : (Jvm.Cond.methodLink "HedgesAndDitches$Game" (91 : Nat) yX0_withUpright) ∈ gw := gw_t (gw_t2 (List.mem_of_getElem? (l := tables_1_2) (i := 102) (by decide +kernel))) rfl
theorem qIM_yX0_withUpright : (Jvm.Cond.instanceMethod yX0_withUpright) ∈ gw := gw_t (gw_t2 (List.mem_of_getElem? (l := tables_1_2) (i := 103) (by decide +kernel))) rfl
theorem qSE_yX0_withUpright : (Jvm.Cond.selects "HedgesAndDitches$Game" yX0_withUpright yX0_withUpright) ∈ gw := gw_t (gw_t2 (List.mem_of_getElem? (l := tables_1_2) (i := 104) (by decide +kernel))) rfl
theorem qCO_yX0_withUpright : (Jvm.Cond.code yX0_withUpright prog_2_method_18_code (7 : Nat) (Option.some Jvm.ClassFile.FieldType.int)) ∈ gw := gw_t (gw_t2 (List.mem_of_getElem? (l := tables_1_2) (i := 105) (by decide +kernel))) rfl
theorem qML_RX0_155 : (Jvm.Cond.methodLink "HedgesAndDitches$Game" (155 : Nat) yX0_around) ∈ gw := gw_t (gw_t2 (List.mem_of_getElem? (l := tables_1_2) (i := 106) (by decide +kernel))) rfl
theorem qIM_yX0_around : (Jvm.Cond.instanceMethod yX0_around) ∈ gw := gw_t (gw_t2 (List.mem_of_getElem? (l := tables_1_2) (i := 107) (by decide +kernel))) rfl
theorem qSE_yX0_around : (Jvm.Cond.selects "HedgesAndDitches$Game" yX0_around yX0_around) ∈ gw := gw_t (gw_t2 (List.mem_of_getElem? (l := tables_1_2) (i := 108) (by decide +kernel))) rfl
theorem qCO_yX0_around : (Jvm.Cond.code yX0_around prog_2_method_23_code (7 : Nat) (Option.some Jvm.ClassFile.FieldType.long)) ∈ gw := gw_t (gw_t2 (List.mem_of_getElem? (l := tables_1_2) (i := 109) (by decide +kernel))) rfl
theorem qML_RX3_290 : (Jvm.Cond.methodLink "HedgesAndDitches" (290 : Nat) yX0_calmEdges) ∈ gw := gw_t (gw_t2 (List.mem_of_getElem? (l := tables_1_2) (i := 110) (by decide +kernel))) rfl
theorem qIM_yX0_calmEdges : (Jvm.Cond.instanceMethod yX0_calmEdges) ∈ gw := gw_t (gw_t2 (List.mem_of_getElem? (l := tables_1_2) (i := 111) (by decide +kernel))) rfl
theorem qSE_yX0_calmEdges : (Jvm.Cond.selects "HedgesAndDitches$Game" yX0_calmEdges yX0_calmEdges) ∈ gw := gw_t (gw_t2 (List.mem_of_getElem? (l := tables_1_2) (i := 112) (by decide +kernel))) rfl
theorem qCO_yX0_calmEdges : (Jvm.Cond.code yX0_calmEdges prog_2_method_43_code (6 : Nat) (Option.some Jvm.ClassFile.FieldType.long)) ∈ gw := gw_t (gw_t2 (List.mem_of_getElem? (l := tables_1_2) (i := 113) (by decide +kernel))) rfl
theorem qML_RX0_159 : (Jvm.Cond.methodLink "HedgesAndDitches$Game" (159 : Nat) yX0_withTwo) ∈ gw := gw_t (gw_t2 (List.mem_of_getElem? (l := tables_1_2) (i := 114) (by decide +kernel))) rfl
theorem qIM_yX0_withTwo : (Jvm.Cond.instanceMethod yX0_withTwo) ∈ gw := gw_t (gw_t2 (List.mem_of_getElem? (l := tables_1_2) (i := 115) (by decide +kernel))) rfl
theorem qSE_yX0_withTwo : (Jvm.Cond.selects "HedgesAndDitches$Game" yX0_withTwo yX0_withTwo) ∈ gw := gw_t (gw_t2 (List.mem_of_getElem? (l := tables_1_2) (i := 116) (by decide +kernel))) rfl
theorem qCO_yX0_withTwo : (Jvm.Cond.code yX0_withTwo prog_2_method_22_code (7 : Nat) (Option.some Jvm.ClassFile.FieldType.int)) ∈ gw := gw_t (gw_t2 (List.mem_of_getElem? (l := tables_1_2) (i := 117) (by decide +kernel))) rfl
theorem qML_RX3_383 : (Jvm.Cond.methodLink "HedgesAndDitches" (383 : Nat) yX0_digsBelow) ∈ gw := gw_t (gw_t2 (List.mem_of_getElem? (l := tables_1_2) (i := 118) (by decide +kernel))) rfl
theorem qIM_yX0_digsBelow : (Jvm.Cond.instanceMethod yX0_digsBelow) ∈ gw := gw_t (gw_t2 (List.mem_of_getElem? (l := tables_1_2) (i := 119) (by decide +kernel))) rfl
theorem qSE_yX0_digsBelow : (Jvm.Cond.selects "HedgesAndDitches$Game" yX0_digsBelow yX0_digsBelow) ∈ gw := gw_t (gw_t2 (List.mem_of_getElem? (l := tables_1_2) (i := 120) (by decide +kernel))) rfl
theorem qCO_yX0_digsBelow : (Jvm.Cond.code yX0_digsBelow prog_2_method_44_code (3 : Nat) (Option.some Jvm.ClassFile.FieldType.long)) ∈ gw := gw_t (gw_t2 (List.mem_of_getElem? (l := tables_1_2) (i := 121) (by decide +kernel))) rfl
theorem qML_RX0_141 : (Jvm.Cond.methodLink "HedgesAndDitches$Game" (141 : Nat) yJ6_bitCount_0f7a4) ∈ gw := gw_t (gw_t2 (List.mem_of_getElem? (l := tables_1_2) (i := 122) (by decide +kernel))) rfl
theorem qSM_yJ6_bitCount_0f7a4 : (Jvm.Cond.static yJ6_bitCount_0f7a4) ∈ gw := gw_t (gw_t2 (List.mem_of_getElem? (l := tables_1_2) (i := 123) (by decide +kernel))) rfl
theorem qCO_yJ6_bitCount_0f7a4 : (Jvm.Cond.code yJ6_bitCount_0f7a4 prog_7_method_49_code (1 : Nat) (Option.some Jvm.ClassFile.FieldType.int)) ∈ gw := gw_t (gw_t2 (List.mem_of_getElem? (l := tables_1_2) (i := 124) (by decide +kernel))) rfl
theorem qCT_RJ6_265 : (Jvm.Cond.constant "java/lang/Integer" (265 : Nat) (1431655765 : Int32)) ∈ gw := gw_t (gw_t2 (List.mem_of_getElem? (l := tables_1_2) (i := 125) (by decide +kernel))) rfl
theorem qCT_RJ6_266 : (Jvm.Cond.constant "java/lang/Integer" (266 : Nat) (858993459 : Int32)) ∈ gw := gw_t (gw_t2 (List.mem_of_getElem? (l := tables_1_2) (i := 126) (by decide +kernel))) rfl
theorem qCT_RJ6_267 : (Jvm.Cond.constant "java/lang/Integer" (267 : Nat) (252645135 : Int32)) ∈ gw := gw_t (gw_t2 (List.mem_of_getElem? (l := tables_1_2) (i := 127) (by decide +kernel))) rfl
theorem qML_RX3_224 : (Jvm.Cond.methodLink "HedgesAndDitches" (224 : Nat) yX0_touched) ∈ gw := gw_t (gw_t2 (List.mem_of_getElem? (l := tables_1_2) (i := 128) (by decide +kernel))) rfl
theorem qIM_yX0_touched : (Jvm.Cond.instanceMethod yX0_touched) ∈ gw := gw_t (gw_t2 (List.mem_of_getElem? (l := tables_1_2) (i := 129) (by decide +kernel))) rfl
theorem qSE_yX0_touched : (Jvm.Cond.selects "HedgesAndDitches$Game" yX0_touched yX0_touched) ∈ gw := gw_t (gw_t2 (List.mem_of_getElem? (l := tables_1_2) (i := 130) (by decide +kernel))) rfl
theorem qCO_yX0_touched : (Jvm.Cond.code yX0_touched prog_2_method_19_code (3 : Nat) (Option.some Jvm.ClassFile.FieldType.int)) ∈ gw := gw_t (gw_t2 (List.mem_of_getElem? (l := tables_1_2) (i := 131) (by decide +kernel))) rfl
theorem qML_RX3_387 : (Jvm.Cond.methodLink "HedgesAndDitches" (387 : Nat) yX0_drawnSlot) ∈ gw := gw_t (gw_t2 (List.mem_of_getElem? (l := tables_1_2) (i := 132) (by decide +kernel))) rfl
theorem qIM_yX0_drawnSlot : (Jvm.Cond.instanceMethod yX0_drawnSlot) ∈ gw := gw_t (gw_t2 (List.mem_of_getElem? (l := tables_1_2) (i := 133) (by decide +kernel))) rfl
theorem qSE_yX0_drawnSlot : (Jvm.Cond.selects "HedgesAndDitches$Game" yX0_drawnSlot yX0_drawnSlot) ∈ gw := gw_t (gw_t2 (List.mem_of_getElem? (l := tables_1_2) (i := 134) (by decide +kernel))) rfl
theorem qCO_yX0_drawnSlot : (Jvm.Cond.code yX0_drawnSlot prog_2_method_46_code (3 : Nat) (Option.some Jvm.ClassFile.FieldType.int)) ∈ gw := gw_t (gw_t2 (List.mem_of_getElem? (l := tables_1_2) (i := 135) (by decide +kernel))) rfl
theorem qML_RX0_163 : (Jvm.Cond.methodLink "HedgesAndDitches$Game" (163 : Nat) yJ13_bitCount_95d88) ∈ gw := gw_t (gw_t2 (List.mem_of_getElem? (l := tables_1_2) (i := 136) (by decide +kernel))) rfl
theorem qML_RX0_167 : (Jvm.Cond.methodLink "HedgesAndDitches$Game" (167 : Nat) yX0_drawBelow) ∈ gw := gw_t (gw_t2 (List.mem_of_getElem? (l := tables_1_2) (i := 137) (by decide +kernel))) rfl
theorem qIM_yX0_drawBelow : (Jvm.Cond.instanceMethod yX0_drawBelow) ∈ gw := gw_t (gw_t2 (List.mem_of_getElem? (l := tables_1_2) (i := 138) (by decide +kernel))) rfl
theorem qSE_yX0_drawBelow : (Jvm.Cond.selects "HedgesAndDitches$Game" yX0_drawBelow yX0_drawBelow) ∈ gw := gw_t (gw_t2 (List.mem_of_getElem? (l := tables_1_2) (i := 139) (by decide +kernel))) rfl
theorem qCO_yX0_drawBelow : (Jvm.Cond.code yX0_drawBelow prog_2_method_45_code (2 : Nat) (Option.some Jvm.ClassFile.FieldType.int)) ∈ gw := gw_t (gw_t2 (List.mem_of_getElem? (l := tables_1_2) (i := 140) (by decide +kernel))) rfl
theorem qCT_RX0_162 : (Jvm.Cond.constant "HedgesAndDitches$Game" (162 : Nat) (1103515245 : Int32)) ∈ gw := gw_t (gw_t2 (List.mem_of_getElem? (l := tables_1_2) (i := 141) (by decide +kernel))) rfl
theorem qMN_RX0_170 : (Jvm.Cond.methodLinkNest "HedgesAndDitches$Game" (170 : Nat) yX3_slotAt "HedgesAndDitches") ∈ lw_tbl := List.mem_append_right _ (gw_t2 (List.mem_of_getElem? (l := tables_1_2) (i := 142) (by decide +kernel)))
theorem qSM_yX3_slotAt : (Jvm.Cond.static yX3_slotAt) ∈ gw := gw_t (gw_t2 (List.mem_of_getElem? (l := tables_1_2) (i := 143) (by decide +kernel))) rfl
theorem qCO_yX3_slotAt : (Jvm.Cond.code yX3_slotAt prog_1_method_69_code (6 : Nat) (Option.some Jvm.ClassFile.FieldType.int)) ∈ gw := gw_t (gw_t2 (List.mem_of_getElem? (l := tables_1_2) (i := 144) (by decide +kernel))) rfl
theorem qML_RX3_318 : (Jvm.Cond.methodLink "HedgesAndDitches" (318 : Nat) yX3_firstSlot) ∈ gw := gw_t (gw_t2 (List.mem_of_getElem? (l := tables_1_2) (i := 145) (by decide +kernel))) rfl
theorem qSM_yX3_firstSlot : (Jvm.Cond.static yX3_firstSlot) ∈ gw := gw_t (gw_t2 (List.mem_of_getElem? (l := tables_1_2) (i := 146) (by decide +kernel))) rfl
theorem qCO_yX3_firstSlot : (Jvm.Cond.code yX3_firstSlot prog_1_method_68_code (2 : Nat) (Option.some Jvm.ClassFile.FieldType.int)) ∈ gw := gw_t (gw_t2 (List.mem_of_getElem? (l := tables_1_2) (i := 147) (by decide +kernel))) rfl
theorem qML_RX3_249 : (Jvm.Cond.methodLink "HedgesAndDitches" (249 : Nat) yX3_moveOf) ∈ gw := gw_t (gw_t2 (List.mem_of_getElem? (l := tables_1_2) (i := 148) (by decide +kernel))) rfl
theorem qSM_yX3_moveOf : (Jvm.Cond.static yX3_moveOf) ∈ gw := gw_t (gw_t2 (List.mem_of_getElem? (l := tables_1_2) (i := 149) (by decide +kernel))) rfl
theorem qCO_yX3_moveOf : (Jvm.Cond.code yX3_moveOf prog_1_method_67_code (1 : Nat) (Option.some Jvm.ClassFile.FieldType.int)) ∈ gw := gw_t (gw_t2 (List.mem_of_getElem? (l := tables_1_2) (i := 150) (by decide +kernel))) rfl
theorem qML_RL_49 : (Jvm.Cond.methodLink "HedgesAndDitchesLaw" (49 : Nat) yX3_size) ∈ gw := gw_t (gw_t2 (List.mem_of_getElem? (l := tables_1_2) (i := 151) (by decide +kernel))) rfl
theorem qIM_yX3_size : (Jvm.Cond.instanceMethod yX3_size) ∈ gw := gw_t (gw_t2 (List.mem_of_getElem? (l := tables_1_2) (i := 152) (by decide +kernel))) rfl
theorem qSE_yX3_size : (Jvm.Cond.selects "HedgesAndDitches" yX3_size yX3_size) ∈ gw := gw_t (gw_t2 (List.mem_of_getElem? (l := tables_1_2) (i := 153) (by decide +kernel))) rfl
theorem qCO_yX3_size : (Jvm.Cond.code yX3_size prog_1_method_9_code (3 : Nat) (Option.some Jvm.ClassFile.FieldType.int)) ∈ gw := gw_t (gw_t2 (List.mem_of_getElem? (l := tables_1_2) (i := 154) (by decide +kernel))) rfl
theorem qML_RX3_140 : (Jvm.Cond.methodLink "HedgesAndDitches" (140 : Nat) yX3_isSide) ∈ gw := gw_t (gw_t2 (List.mem_of_getElem? (l := tables_1_2) (i := 155) (by decide +kernel))) rfl
theorem qSM_yX3_isSide : (Jvm.Cond.static yX3_isSide) ∈ gw := gw_t (gw_t2 (List.mem_of_getElem? (l := tables_1_2) (i := 156) (by decide +kernel))) rfl
theorem qCO_yX3_isSide : (Jvm.Cond.code yX3_isSide prog_1_method_65_code (1 : Nat) (Option.some Jvm.ClassFile.FieldType.boolean)) ∈ gw := gw_t (gw_t2 (List.mem_of_getElem? (l := tables_1_2) (i := 157) (by decide +kernel))) rfl
theorem qML_RX3_143 : (Jvm.Cond.methodLink "HedgesAndDitches" (143 : Nat) yX0_lay) ∈ gw := gw_t (gw_t2 (List.mem_of_getElem? (l := tables_1_2) (i := 158) (by decide +kernel))) rfl
theorem qML_RL_53 : (Jvm.Cond.methodLink "HedgesAndDitchesLaw" (53 : Nat) yX3_player) ∈ gw := gw_t (gw_t2 (List.mem_of_getElem? (l := tables_1_2) (i := 159) (by decide +kernel))) rfl
theorem qIM_yX3_player : (Jvm.Cond.instanceMethod yX3_player) ∈ gw := gw_t (gw_t2 (List.mem_of_getElem? (l := tables_1_2) (i := 160) (by decide +kernel))) rfl
theorem qSE_yX3_player : (Jvm.Cond.selects "HedgesAndDitches" yX3_player yX3_player) ∈ gw := gw_t (gw_t2 (List.mem_of_getElem? (l := tables_1_2) (i := 161) (by decide +kernel))) rfl
theorem qCO_yX3_player : (Jvm.Cond.code yX3_player prog_1_method_10_code (3 : Nat) (Option.some Jvm.ClassFile.FieldType.int)) ∈ gw := gw_t (gw_t2 (List.mem_of_getElem? (l := tables_1_2) (i := 162) (by decide +kernel))) rfl
theorem qML_RX3_149 : (Jvm.Cond.methodLink "HedgesAndDitches" (149 : Nat) yX3_enlist) ∈ gw := gw_t (gw_t2 (List.mem_of_getElem? (l := tables_1_2) (i := 163) (by decide +kernel))) rfl
theorem qIM_yX3_enlist : (Jvm.Cond.instanceMethod yX3_enlist) ∈ gw := gw_t (gw_t2 (List.mem_of_getElem? (l := tables_1_2) (i := 165) (by decide +kernel))) rfl
theorem qCO_yX3_enlist : (Jvm.Cond.code yX3_enlist prog_1_method_79_code (4 : Nat) (Option.none : Option Jvm.ClassFile.FieldType)) ∈ gw := gw_t (gw_t2 (List.mem_of_getElem? (l := tables_1_2) (i := 166) (by decide +kernel))) rfl
theorem qML_RL_57 : (Jvm.Cond.methodLink "HedgesAndDitchesLaw" (57 : Nat) yX3_turn) ∈ gw := gw_t (gw_t2 (List.mem_of_getElem? (l := tables_1_2) (i := 167) (by decide +kernel))) rfl
theorem qIM_yX3_turn : (Jvm.Cond.instanceMethod yX3_turn) ∈ gw := gw_t (gw_t2 (List.mem_of_getElem? (l := tables_1_2) (i := 168) (by decide +kernel))) rfl
theorem qSE_yX3_turn : (Jvm.Cond.selects "HedgesAndDitches" yX3_turn yX3_turn) ∈ gw := gw_t (gw_t2 (List.mem_of_getElem? (l := tables_1_2) (i := 169) (by decide +kernel))) rfl
theorem qCO_yX3_turn : (Jvm.Cond.code yX3_turn prog_1_method_11_code (3 : Nat) (Option.some Jvm.ClassFile.FieldType.int)) ∈ gw := gw_t (gw_t2 (List.mem_of_getElem? (l := tables_1_2) (i := 170) (by decide +kernel))) rfl
theorem qML_RX3_153 : (Jvm.Cond.methodLink "HedgesAndDitches" (153 : Nat) yX3_isSeat) ∈ gw := gw_t (gw_t2 (List.mem_of_getElem? (l := tables_1_2) (i := 171) (by decide +kernel))) rfl
theorem qSM_yX3_isSeat : (Jvm.Cond.static yX3_isSeat) ∈ gw := gw_t (gw_t2 (List.mem_of_getElem? (l := tables_1_2) (i := 172) (by decide +kernel))) rfl
theorem qCO_yX3_isSeat : (Jvm.Cond.code yX3_isSeat prog_1_method_64_code (1 : Nat) (Option.some Jvm.ClassFile.FieldType.boolean)) ∈ gw := gw_t (gw_t2 (List.mem_of_getElem? (l := tables_1_2) (i := 173) (by decide +kernel))) rfl
theorem qML_RL_61 : (Jvm.Cond.methodLink "HedgesAndDitchesLaw" (61 : Nat) yX3_feed) ∈ gw := gw_t (gw_t2 (List.mem_of_getElem? (l := tables_1_2) (i := 174) (by decide +kernel))) rfl
theorem qIM_yX3_feed : (Jvm.Cond.instanceMethod yX3_feed) ∈ gw := gw_t (gw_t2 (List.mem_of_getElem? (l := tables_1_2) (i := 175) (by decide +kernel))) rfl
theorem qSE_yX3_feed : (Jvm.Cond.selects "HedgesAndDitches" yX3_feed yX3_feed) ∈ gw := gw_t (gw_t2 (List.mem_of_getElem? (l := tables_1_2) (i := 176) (by decide +kernel))) rfl
theorem qCO_yX3_feed : (Jvm.Cond.code yX3_feed prog_1_method_12_code (2 : Nat) (Option.some Jvm.ClassFile.FieldType.int)) ∈ gw := gw_t (gw_t2 (List.mem_of_getElem? (l := tables_1_2) (i := 177) (by decide +kernel))) rfl
theorem qML_RX3_162 : (Jvm.Cond.methodLink "HedgesAndDitches" (162 : Nat) yX2_append) ∈ gw := gw_t (gw_t2 (List.mem_of_getElem? (l := tables_1_2) (i := 178) (by decide +kernel))) rfl
theorem qIM_yX2_append : (Jvm.Cond.instanceMethod yX2_append) ∈ gw := gw_t (gw_t2 (List.mem_of_getElem? (l := tables_1_2) (i := 179) (by decide +kernel))) rfl
theorem qSE_yX2_append : (Jvm.Cond.selects "HedgesAndDitches$Tape" yX2_append yX2_append) ∈ gw := gw_t (gw_t2 (List.mem_of_getElem? (l := tables_1_2) (i := 180) (by decide +kernel))) rfl
theorem qCO_yX2_append : (Jvm.Cond.code yX2_append prog_4_method_2_code (2 : Nat) (Option.none : Option Jvm.ClassFile.FieldType)) ∈ gw := gw_t (gw_t2 (List.mem_of_getElem? (l := tables_1_2) (i := 181) (by decide +kernel))) rfl
theorem qML_RL_65 : (Jvm.Cond.methodLink "HedgesAndDitchesLaw" (65 : Nat) yX3_wipe) ∈ gw := gw_t (gw_t2 (List.mem_of_getElem? (l := tables_1_2) (i := 182) (by decide +kernel))) rfl
theorem qIM_yX3_wipe : (Jvm.Cond.instanceMethod yX3_wipe) ∈ gw := gw_t (gw_t2 (List.mem_of_getElem? (l := tables_1_2) (i := 183) (by decide +kernel))) rfl
theorem qSE_yX3_wipe : (Jvm.Cond.selects "HedgesAndDitches" yX3_wipe yX3_wipe) ∈ gw := gw_t (gw_t2 (List.mem_of_getElem? (l := tables_1_2) (i := 184) (by decide +kernel))) rfl
theorem qCO_yX3_wipe : (Jvm.Cond.code yX3_wipe prog_1_method_13_code (2 : Nat) (Option.some Jvm.ClassFile.FieldType.int)) ∈ gw := gw_t (gw_t2 (List.mem_of_getElem? (l := tables_1_2) (i := 185) (by decide +kernel))) rfl
theorem qML_RL_70 : (Jvm.Cond.methodLink "HedgesAndDitchesLaw" (70 : Nat) yX3_board) ∈ gw := gw_t (gw_t2 (List.mem_of_getElem? (l := tables_1_2) (i := 186) (by decide +kernel))) rfl
theorem qIM_yX3_board : (Jvm.Cond.instanceMethod yX3_board) ∈ gw := gw_t (gw_t2 (List.mem_of_getElem? (l := tables_1_2) (i := 187) (by decide +kernel))) rfl
theorem qSE_yX3_board : (Jvm.Cond.selects "HedgesAndDitches" yX3_board yX3_board) ∈ gw := gw_t (gw_t2 (List.mem_of_getElem? (l := tables_1_2) (i := 188) (by decide +kernel))) rfl
theorem qCO_yX3_board : (Jvm.Cond.code yX3_board prog_1_method_14_code (3 : Nat) (Option.some Jvm.ClassFile.FieldType.int)) ∈ gw := gw_t (gw_t2 (List.mem_of_getElem? (l := tables_1_2) (i := 189) (by decide +kernel))) rfl
theorem qML_RX3_169 : (Jvm.Cond.methodLink "HedgesAndDitches" (169 : Nat) yX2_rewind) ∈ gw := gw_t (gw_t2 (List.mem_of_getElem? (l := tables_1_2) (i := 190) (by decide +kernel))) rfl
theorem qIM_yX2_rewind : (Jvm.Cond.instanceMethod yX2_rewind) ∈ gw := gw_t (gw_t2 (List.mem_of_getElem? (l := tables_1_2) (i := 191) (by decide +kernel))) rfl
theorem qSE_yX2_rewind : (Jvm.Cond.selects "HedgesAndDitches$Tape" yX2_rewind yX2_rewind) ∈ gw := gw_t (gw_t2 (List.mem_of_getElem? (l := tables_1_2) (i := 192) (by decide +kernel))) rfl
theorem qCO_yX2_rewind : (Jvm.Cond.code yX2_rewind prog_4_method_3_code (1 : Nat) (Option.none : Option Jvm.ClassFile.FieldType)) ∈ gw := gw_t (gw_t2 (List.mem_of_getElem? (l := tables_1_2) (i := 193) (by decide +kernel))) rfl
theorem qML_RX3_172 : (Jvm.Cond.methodLink "HedgesAndDitches" (172 : Nat) yX3_readStatements) ∈ gw := gw_t (gw_t2 (List.mem_of_getElem? (l := tables_1_2) (i := 194) (by decide +kernel))) rfl
theorem qIM_yX3_readStatements : (Jvm.Cond.instanceMethod yX3_readStatements) ∈ gw := gw_t (gw_t2 (List.mem_of_getElem? (l := tables_1_2) (i := 196) (by decide +kernel))) rfl
theorem qCO_yX3_readStatements : (Jvm.Cond.code yX3_readStatements prog_1_method_89_code (2 : Nat) (Option.some Jvm.ClassFile.FieldType.int)) ∈ gw := gw_t (gw_t2 (List.mem_of_getElem? (l := tables_1_2) (i := 197) (by decide +kernel))) rfl
theorem qML_RX3_399 : (Jvm.Cond.methodLink "HedgesAndDitches" (399 : Nat) yX3_readStatement) ∈ gw := gw_t (gw_t2 (List.mem_of_getElem? (l := tables_1_2) (i := 198) (by decide +kernel))) rfl
theorem qIM_yX3_readStatement : (Jvm.Cond.instanceMethod yX3_readStatement) ∈ gw := gw_t (gw_t2 (List.mem_of_getElem? (l := tables_1_2) (i := 200) (by decide +kernel))) rfl
theorem qCO_yX3_readStatement : (Jvm.Cond.code yX3_readStatement prog_1_method_90_code (1 : Nat) (Option.some Jvm.ClassFile.FieldType.boolean)) ∈ gw := gw_t (gw_t2 (List.mem_of_getElem? (l := tables_1_2) (i := 201) (by decide +kernel))) rfl
theorem qML_RX3_402 : (Jvm.Cond.methodLink "HedgesAndDitches" (402 : Nat) yX2_step) ∈ gw := gw_t (gw_t2 (List.mem_of_getElem? (l := tables_1_2) (i := 202) (by decide +kernel))) rfl
theorem qIM_yX2_step : (Jvm.Cond.instanceMethod yX2_step) ∈ gw := gw_t (gw_t2 (List.mem_of_getElem? (l := tables_1_2) (i := 203) (by decide +kernel))) rfl
theorem qSE_yX2_step : (Jvm.Cond.selects "HedgesAndDitches$Tape" yX2_step yX2_step) ∈ gw := gw_t (gw_t2 (List.mem_of_getElem? (l := tables_1_2) (i := 204) (by decide +kernel))) rfl
theorem qCO_yX2_step : (Jvm.Cond.code yX2_step prog_4_method_6_code (2 : Nat) (Option.none : Option Jvm.ClassFile.FieldType)) ∈ gw := gw_t (gw_t2 (List.mem_of_getElem? (l := tables_1_2) (i := 205) (by decide +kernel))) rfl
theorem qML_RX2_25 : (Jvm.Cond.methodLink "HedgesAndDitches$Tape" (25 : Nat) yX2_byteAt) ∈ gw := gw_t (gw_t2 (List.mem_of_getElem? (l := tables_1_2) (i := 206) (by decide +kernel))) rfl
theorem qIM_yX2_byteAt : (Jvm.Cond.instanceMethod yX2_byteAt) ∈ gw := gw_t (gw_t2 (List.mem_of_getElem? (l := tables_1_2) (i := 207) (by decide +kernel))) rfl
theorem qSE_yX2_byteAt : (Jvm.Cond.selects "HedgesAndDitches$Tape" yX2_byteAt yX2_byteAt) ∈ gw := gw_t (gw_t2 (List.mem_of_getElem? (l := tables_1_2) (i := 208) (by decide +kernel))) rfl
theorem qCO_yX2_byteAt : (Jvm.Cond.code yX2_byteAt prog_4_method_4_code (2 : Nat) (Option.some Jvm.ClassFile.FieldType.int)) ∈ gw := gw_t (gw_t2 (List.mem_of_getElem? (l := tables_1_2) (i := 209) (by decide +kernel))) rfl
theorem qML_RX2_29 : (Jvm.Cond.methodLink "HedgesAndDitches$Tape" (29 : Nat) yX2_sortAt) ∈ gw := gw_t (gw_t2 (List.mem_of_getElem? (l := tables_1_2) (i := 210) (by decide +kernel))) rfl
theorem qIM_yX2_sortAt : (Jvm.Cond.instanceMethod yX2_sortAt) ∈ gw := gw_t (gw_t2 (List.mem_of_getElem? (l := tables_1_2) (i := 211) (by decide +kernel))) rfl
theorem qSE_yX2_sortAt : (Jvm.Cond.selects "HedgesAndDitches$Tape" yX2_sortAt yX2_sortAt) ∈ gw := gw_t (gw_t2 (List.mem_of_getElem? (l := tables_1_2) (i := 212) (by decide +kernel))) rfl
theorem qCO_yX2_sortAt : (Jvm.Cond.code yX2_sortAt prog_4_method_5_code (3 : Nat) (Option.some Jvm.ClassFile.FieldType.int)) ∈ gw := gw_t (gw_t2 (List.mem_of_getElem? (l := tables_1_2) (i := 213) (by decide +kernel))) rfl
theorem qML_RX2_32 : (Jvm.Cond.methodLink "HedgesAndDitches$Tape" (32 : Nat) yJ9_min_7cf53) ∈ gw := gw_t (gw_t2 (List.mem_of_getElem? (l := tables_1_2) (i := 214) (by decide +kernel))) rfl
theorem qSM_yJ9_min_7cf53 : (Jvm.Cond.static yJ9_min_7cf53) ∈ gw := gw_t (gw_t2 (List.mem_of_getElem? (l := tables_1_2) (i := 215) (by decide +kernel))) rfl
theorem qCO_yJ9_min_7cf53 : (Jvm.Cond.code yJ9_min_7cf53 prog_9_method_69_code (2 : Nat) (Option.some Jvm.ClassFile.FieldType.int)) ∈ gw := gw_t (gw_t2 (List.mem_of_getElem? (l := tables_1_2) (i := 216) (by decide +kernel))) rfl
theorem qstringRef_2_217 : (Jvm.Cond.stringRef "HedgesAndDitches" (411 : Nat) "size") ∈ lw_tbl := List.mem_append_right _ (gw_t2 (List.mem_of_getElem? (l := tables_1_2) (i := 217) (by decide +kernel)))
theorem qML_RX3_413 : (Jvm.Cond.methodLink "HedgesAndDitches" (413 : Nat) yX2_isWord) ∈ gw := gw_t (gw_t2 (List.mem_of_getElem? (l := tables_1_2) (i := 218) (by decide +kernel))) rfl
theorem qIM_yX2_isWord : (Jvm.Cond.instanceMethod yX2_isWord) ∈ gw := gw_t (gw_t2 (List.mem_of_getElem? (l := tables_1_2) (i := 219) (by decide +kernel))) rfl
theorem qSE_yX2_isWord : (Jvm.Cond.selects "HedgesAndDitches$Tape" yX2_isWord yX2_isWord) ∈ gw := gw_t (gw_t2 (List.mem_of_getElem? (l := tables_1_2) (i := 220) (by decide +kernel))) rfl
theorem qCO_yX2_isWord : (Jvm.Cond.code yX2_isWord prog_4_method_9_code (4 : Nat) (Option.some Jvm.ClassFile.FieldType.boolean)) ∈ gw := gw_t (gw_t2 (List.mem_of_getElem? (l := tables_1_2) (i := 221) (by decide +kernel))) rfl
theorem qML_RX2_38 : (Jvm.Cond.methodLink "HedgesAndDitches$Tape" (38 : Nat) yJ0_length_8abf5) ∈ gw := gw_t (gw_t2 (List.mem_of_getElem? (l := tables_1_2) (i := 222) (by decide +kernel))) rfl
theorem qIM_yJ0_length_8abf5 : (Jvm.Cond.instanceMethod yJ0_length_8abf5) ∈ gw := gw_t (gw_t2 (List.mem_of_getElem? (l := tables_1_2) (i := 223) (by decide +kernel))) rfl
theorem qSE_yJ0_length_8abf5 : (Jvm.Cond.selects "java/lang/String" yJ0_length_8abf5 yJ0_length_8abf5) ∈ gw := gw_t (gw_t2 (List.mem_of_getElem? (l := tables_1_2) (i := 224) (by decide +kernel))) rfl
theorem qCO_yJ0_length_8abf5 : (Jvm.Cond.code yJ0_length_8abf5 prog_10_method_54_code (1 : Nat) (Option.some Jvm.ClassFile.FieldType.int)) ∈ gw := gw_t (gw_t2 (List.mem_of_getElem? (l := tables_1_2) (i := 225) (by decide +kernel))) rfl
theorem qML_RJ0_335 : (Jvm.Cond.methodLink "java/lang/String" (335 : Nat) yJ0_coder_7d493) ∈ gw := gw_t (gw_t2 (List.mem_of_getElem? (l := tables_1_2) (i := 226) (by decide +kernel))) rfl
theorem qIM_yJ0_coder_7d493 : (Jvm.Cond.instanceMethod yJ0_coder_7d493) ∈ gw := gw_t (gw_t2 (List.mem_of_getElem? (l := tables_1_2) (i := 227) (by decide +kernel))) rfl
theorem qSE_yJ0_coder_7d493 : (Jvm.Cond.selects "java/lang/String" yJ0_coder_7d493 yJ0_coder_7d493) ∈ gw := gw_t (gw_t2 (List.mem_of_getElem? (l := tables_1_2) (i := 228) (by decide +kernel))) rfl
theorem qCO_yJ0_coder_7d493 : (Jvm.Cond.code yJ0_coder_7d493 prog_10_method_152_code (1 : Nat) (Option.some Jvm.ClassFile.FieldType.byte)) ∈ gw := gw_t (gw_t2 (List.mem_of_getElem? (l := tables_1_2) (i := 229) (by decide +kernel))) rfl
theorem qFL_RJ0_38 : (Jvm.Cond.fieldLink "java/lang/String" (38 : Nat) "java/lang/String" "COMPACT_STRINGS" "Z") ∈ gw := gw_t (gw_t2 (List.mem_of_getElem? (l := tables_1_2) (i := 230) (by decide +kernel))) rfl
theorem qlaysStatic_2_231 : (Jvm.Cond.laysStatic "java/lang/String" "COMPACT_STRINGS" "Z") ∈ lw_tbl := List.mem_append_right _ (gw_t2 (List.mem_of_getElem? (l := tables_1_2) (i := 231) (by decide +kernel)))
theorem qML_RX2_43 : (Jvm.Cond.methodLink "HedgesAndDitches$Tape" (43 : Nat) yJ0_charAt_5068e) ∈ gw := gw_t (gw_t2 (List.mem_of_getElem? (l := tables_1_2) (i := 232) (by decide +kernel))) rfl
theorem qIM_yJ0_charAt_5068e : (Jvm.Cond.instanceMethod yJ0_charAt_5068e) ∈ gw := gw_t (gw_t2 (List.mem_of_getElem? (l := tables_1_2) (i := 233) (by decide +kernel))) rfl
theorem qSE_yJ0_charAt_5068e : (Jvm.Cond.selects "java/lang/String" yJ0_charAt_5068e yJ0_charAt_5068e) ∈ gw := gw_t (gw_t2 (List.mem_of_getElem? (l := tables_1_2) (i := 234) (by decide +kernel))) rfl
theorem qCO_yJ0_charAt_5068e : (Jvm.Cond.code yJ0_charAt_5068e prog_10_method_56_code (2 : Nat) (Option.some Jvm.ClassFile.FieldType.char)) ∈ gw := gw_t (gw_t2 (List.mem_of_getElem? (l := tables_1_2) (i := 235) (by decide +kernel))) rfl
theorem qML_RJ0_492 : (Jvm.Cond.methodLink "java/lang/String" (492 : Nat) yJ0_isLatin1_aae02) ∈ gw := gw_t (gw_t2 (List.mem_of_getElem? (l := tables_1_2) (i := 236) (by decide +kernel))) rfl
theorem qIM_yJ0_isLatin1_aae02 : (Jvm.Cond.instanceMethod yJ0_isLatin1_aae02) ∈ gw := gw_t (gw_t2 (List.mem_of_getElem? (l := tables_1_2) (i := 237) (by decide +kernel))) rfl
theorem qSE_yJ0_isLatin1_aae02 : (Jvm.Cond.selects "java/lang/String" yJ0_isLatin1_aae02 yJ0_isLatin1_aae02) ∈ gw := gw_t (gw_t2 (List.mem_of_getElem? (l := tables_1_2) (i := 238) (by decide +kernel))) rfl
theorem qCO_yJ0_isLatin1_aae02 : (Jvm.Cond.code yJ0_isLatin1_aae02 prog_10_method_154_code (1 : Nat) (Option.some Jvm.ClassFile.FieldType.boolean)) ∈ gw := gw_t (gw_t2 (List.mem_of_getElem? (l := tables_1_2) (i := 239) (by decide +kernel))) rfl
theorem qML_RJ0_495 : (Jvm.Cond.methodLink "java/lang/String" (495 : Nat) yJ1_charAt_3b067) ∈ gw := gw_t (gw_t3 (List.mem_of_getElem? (l := tables_1_3) (i := 0) (by decide +kernel))) rfl
theorem qSM_yJ1_charAt_3b067 : (Jvm.Cond.static yJ1_charAt_3b067) ∈ gw := gw_t (gw_t3 (List.mem_of_getElem? (l := tables_1_3) (i := 1) (by decide +kernel))) rfl
theorem qCO_yJ1_charAt_3b067 : (Jvm.Cond.code yJ1_charAt_3b067 prog_11_method_2_code (2 : Nat) (Option.some Jvm.ClassFile.FieldType.char)) ∈ gw := gw_t (gw_t3 (List.mem_of_getElem? (l := tables_1_3) (i := 2) (by decide +kernel))) rfl
theorem qML_RJ1_9 : (Jvm.Cond.methodLink "java/lang/StringLatin1" (9 : Nat) yJ0_checkIndex_df160) ∈ gw := gw_t (gw_t3 (List.mem_of_getElem? (l := tables_1_3) (i := 3) (by decide +kernel))) rfl
theorem qSM_yJ0_checkIndex_df160 : (Jvm.Cond.static yJ0_checkIndex_df160) ∈ gw := gw_t (gw_t3 (List.mem_of_getElem? (l := tables_1_3) (i := 4) (by decide +kernel))) rfl
theorem qCO_yJ0_checkIndex_df160 : (Jvm.Cond.code yJ0_checkIndex_df160 prog_10_method_155_code (2 : Nat) (Option.none : Option Jvm.ClassFile.FieldType)) ∈ gw := gw_t (gw_t3 (List.mem_of_getElem? (l := tables_1_3) (i := 5) (by decide +kernel))) rfl
theorem qFL_RJ0_1053 : (Jvm.Cond.fieldLink "java/lang/String" (1053 : Nat) "jdk/internal/util/Preconditions" "SIOOBE_FORMATTER" "Ljava/util/function/BiFunction;") ∈ gw := gw_t (gw_t3 (List.mem_of_getElem? (l := tables_1_3) (i := 6) (by decide +kernel))) rfl
theorem qlaysStatic_3_7 : (Jvm.Cond.laysStatic "jdk/internal/util/Preconditions" "SIOOBE_FORMATTER" "Ljava/util/function/BiFunction;") ∈ lw_tbl := List.mem_append_right _ (gw_t3 (List.mem_of_getElem? (l := tables_1_3) (i := 7) (by decide +kernel)))
theorem qML_RJ0_1059 : (Jvm.Cond.methodLink "java/lang/String" (1059 : Nat) yJ3_checkIndex_8e157) ∈ gw := gw_t (gw_t3 (List.mem_of_getElem? (l := tables_1_3) (i := 8) (by decide +kernel))) rfl
theorem qSM_yJ3_checkIndex_8e157 : (Jvm.Cond.static yJ3_checkIndex_8e157) ∈ gw := gw_t (gw_t3 (List.mem_of_getElem? (l := tables_1_3) (i := 9) (by decide +kernel))) rfl
theorem qCO_yJ3_checkIndex_8e157 : (Jvm.Cond.code yJ3_checkIndex_8e157 prog_14_method_11_code (3 : Nat) (Option.some Jvm.ClassFile.FieldType.int)) ∈ gw := gw_t (gw_t3 (List.mem_of_getElem? (l := tables_1_3) (i := 10) (by decide +kernel))) rfl
theorem qML_RJ0_498 : (Jvm.Cond.methodLink "java/lang/String" (498 : Nat) yJ2_charAt_3b067) ∈ gw := gw_t (gw_t3 (List.mem_of_getElem? (l := tables_1_3) (i := 11) (by decide +kernel))) rfl
theorem qSM_yJ2_charAt_3b067 : (Jvm.Cond.static yJ2_charAt_3b067) ∈ gw := gw_t (gw_t3 (List.mem_of_getElem? (l := tables_1_3) (i := 12) (by decide +kernel))) rfl
theorem qCO_yJ2_charAt_3b067 : (Jvm.Cond.code yJ2_charAt_3b067 prog_12_method_83_code (2 : Nat) (Option.some Jvm.ClassFile.FieldType.char)) ∈ gw := gw_t (gw_t3 (List.mem_of_getElem? (l := tables_1_3) (i := 13) (by decide +kernel))) rfl
theorem qML_RJ2_67 : (Jvm.Cond.methodLink "java/lang/StringUTF16" (67 : Nat) yJ2_checkIndex_2214a) ∈ gw := gw_t (gw_t3 (List.mem_of_getElem? (l := tables_1_3) (i := 14) (by decide +kernel))) rfl
theorem qSM_yJ2_checkIndex_2214a : (Jvm.Cond.static yJ2_checkIndex_2214a) ∈ gw := gw_t (gw_t3 (List.mem_of_getElem? (l := tables_1_3) (i := 15) (by decide +kernel))) rfl
theorem qCO_yJ2_checkIndex_2214a : (Jvm.Cond.code yJ2_checkIndex_2214a prog_12_method_91_code (2 : Nat) (Option.none : Option Jvm.ClassFile.FieldType)) ∈ gw := gw_t (gw_t3 (List.mem_of_getElem? (l := tables_1_3) (i := 16) (by decide +kernel))) rfl
theorem qML_RJ2_48 : (Jvm.Cond.methodLink "java/lang/StringUTF16" (48 : Nat) yJ2_length_9d52b) ∈ gw := gw_t (gw_t3 (List.mem_of_getElem? (l := tables_1_3) (i := 17) (by decide +kernel))) rfl
theorem qSM_yJ2_length_9d52b : (Jvm.Cond.static yJ2_length_9d52b) ∈ gw := gw_t (gw_t3 (List.mem_of_getElem? (l := tables_1_3) (i := 18) (by decide +kernel))) rfl
theorem qCO_yJ2_length_9d52b : (Jvm.Cond.code yJ2_length_9d52b prog_12_method_6_code (1 : Nat) (Option.some Jvm.ClassFile.FieldType.int)) ∈ gw := gw_t (gw_t3 (List.mem_of_getElem? (l := tables_1_3) (i := 19) (by decide +kernel))) rfl
theorem qML_RJ2_414 : (Jvm.Cond.methodLink "java/lang/StringUTF16" (414 : Nat) yJ0_checkIndex_df160) ∈ gw := gw_t (gw_t3 (List.mem_of_getElem? (l := tables_1_3) (i := 20) (by decide +kernel))) rfl
theorem qML_RJ2_71 : (Jvm.Cond.methodLink "java/lang/StringUTF16" (71 : Nat) yJ2_getChar_3b067) ∈ gw := gw_t (gw_t3 (List.mem_of_getElem? (l := tables_1_3) (i := 21) (by decide +kernel))) rfl
theorem qSM_yJ2_getChar_3b067 : (Jvm.Cond.static yJ2_getChar_3b067) ∈ gw := gw_t (gw_t3 (List.mem_of_getElem? (l := tables_1_3) (i := 22) (by decide +kernel))) rfl
theorem qCO_yJ2_getChar_3b067 : (Jvm.Cond.code yJ2_getChar_3b067 prog_12_method_5_code (2 : Nat) (Option.some Jvm.ClassFile.FieldType.char)) ∈ gw := gw_t (gw_t3 (List.mem_of_getElem? (l := tables_1_3) (i := 23) (by decide +kernel))) rfl
theorem qFL_RJ2_44 : (Jvm.Cond.fieldLink "java/lang/StringUTF16" (44 : Nat) "java/lang/StringUTF16" "$assertionsDisabled" "Z") ∈ gw := gw_t (gw_t3 (List.mem_of_getElem? (l := tables_1_3) (i := 24) (by decide +kernel))) rfl
theorem qlaysStatic_3_25 : (Jvm.Cond.laysStatic "java/lang/StringUTF16" "$assertionsDisabled" "Z") ∈ lw_tbl := List.mem_append_right _ (gw_t3 (List.mem_of_getElem? (l := tables_1_3) (i := 25) (by decide +kernel)))
theorem qFL_RJ2_59 : (Jvm.Cond.fieldLink "java/lang/StringUTF16" (59 : Nat) "java/lang/StringUTF16" "HI_BYTE_SHIFT" "I") ∈ gw := gw_t (gw_t3 (List.mem_of_getElem? (l := tables_1_3) (i := 26) (by decide +kernel))) rfl
theorem qlaysStatic_3_27 : (Jvm.Cond.laysStatic "java/lang/StringUTF16" "HI_BYTE_SHIFT" "I") ∈ lw_tbl := List.mem_append_right _ (gw_t3 (List.mem_of_getElem? (l := tables_1_3) (i := 27) (by decide +kernel)))
theorem qFL_RJ2_63 : (Jvm.Cond.fieldLink "java/lang/StringUTF16" (63 : Nat) "java/lang/StringUTF16" "LO_BYTE_SHIFT" "I") ∈ gw := gw_t (gw_t3 (List.mem_of_getElem? (l := tables_1_3) (i := 28) (by decide +kernel))) rfl
theorem qlaysStatic_3_29 : (Jvm.Cond.laysStatic "java/lang/StringUTF16" "LO_BYTE_SHIFT" "I") ∈ lw_tbl := List.mem_append_right _ (gw_t3 (List.mem_of_getElem? (l := tables_1_3) (i := 29) (by decide +kernel)))
theorem qML_RX3_417 : (Jvm.Cond.methodLink "HedgesAndDitches" (417 : Nat) yX3_readSize) ∈ gw := gw_t (gw_t3 (List.mem_of_getElem? (l := tables_1_3) (i := 30) (by decide +kernel))) rfl
theorem qIM_yX3_readSize : (Jvm.Cond.instanceMethod yX3_readSize) ∈ gw := gw_t (gw_t3 (List.mem_of_getElem? (l := tables_1_3) (i := 32) (by decide +kernel))) rfl
theorem qCO_yX3_readSize : (Jvm.Cond.code yX3_readSize prog_1_method_92_code (3 : Nat) (Option.some Jvm.ClassFile.FieldType.boolean)) ∈ gw := gw_t (gw_t3 (List.mem_of_getElem? (l := tables_1_3) (i := 33) (by decide +kernel))) rfl
theorem qML_RX3_439 : (Jvm.Cond.methodLink "HedgesAndDitches" (439 : Nat) yX3_readNumber) ∈ gw := gw_t (gw_t3 (List.mem_of_getElem? (l := tables_1_3) (i := 34) (by decide +kernel))) rfl
theorem qIM_yX3_readNumber : (Jvm.Cond.instanceMethod yX3_readNumber) ∈ gw := gw_t (gw_t3 (List.mem_of_getElem? (l := tables_1_3) (i := 36) (by decide +kernel))) rfl
theorem qCO_yX3_readNumber : (Jvm.Cond.code yX3_readNumber prog_1_method_91_code (4 : Nat) (Option.some Jvm.ClassFile.FieldType.int)) ∈ gw := gw_t (gw_t3 (List.mem_of_getElem? (l := tables_1_3) (i := 37) (by decide +kernel))) rfl
theorem qML_RX3_436 : (Jvm.Cond.methodLink "HedgesAndDitches" (436 : Nat) yX2_numberHere) ∈ gw := gw_t (gw_t3 (List.mem_of_getElem? (l := tables_1_3) (i := 38) (by decide +kernel))) rfl
theorem qIM_yX2_numberHere : (Jvm.Cond.instanceMethod yX2_numberHere) ∈ gw := gw_t (gw_t3 (List.mem_of_getElem? (l := tables_1_3) (i := 39) (by decide +kernel))) rfl
theorem qSE_yX2_numberHere : (Jvm.Cond.selects "HedgesAndDitches$Tape" yX2_numberHere yX2_numberHere) ∈ gw := gw_t (gw_t3 (List.mem_of_getElem? (l := tables_1_3) (i := 40) (by decide +kernel))) rfl
theorem qCO_yX2_numberHere : (Jvm.Cond.code yX2_numberHere prog_4_method_10_code (3 : Nat) (Option.some Jvm.ClassFile.FieldType.int)) ∈ gw := gw_t (gw_t3 (List.mem_of_getElem? (l := tables_1_3) (i := 41) (by decide +kernel))) rfl
theorem qstringRef_3_42 : (Jvm.Cond.stringRef "HedgesAndDitches" (420 : Nat) "hedge") ∈ lw_tbl := List.mem_append_right _ (gw_t3 (List.mem_of_getElem? (l := tables_1_3) (i := 42) (by decide +kernel)))
theorem qML_RX3_422 : (Jvm.Cond.methodLink "HedgesAndDitches" (422 : Nat) yX3_readMove) ∈ gw := gw_t (gw_t3 (List.mem_of_getElem? (l := tables_1_3) (i := 43) (by decide +kernel))) rfl
theorem qIM_yX3_readMove : (Jvm.Cond.instanceMethod yX3_readMove) ∈ gw := gw_t (gw_t3 (List.mem_of_getElem? (l := tables_1_3) (i := 45) (by decide +kernel))) rfl
theorem qCO_yX3_readMove : (Jvm.Cond.code yX3_readMove prog_1_method_93_code (4 : Nat) (Option.some Jvm.ClassFile.FieldType.boolean)) ∈ gw := gw_t (gw_t3 (List.mem_of_getElem? (l := tables_1_3) (i := 46) (by decide +kernel))) rfl
theorem qML_RX3_239 : (Jvm.Cond.methodLink "HedgesAndDitches" (239 : Nat) yX0_slotOf) ∈ gw := gw_t (gw_t3 (List.mem_of_getElem? (l := tables_1_3) (i := 47) (by decide +kernel))) rfl
theorem qIM_yX0_slotOf : (Jvm.Cond.instanceMethod yX0_slotOf) ∈ gw := gw_t (gw_t3 (List.mem_of_getElem? (l := tables_1_3) (i := 48) (by decide +kernel))) rfl
theorem qSE_yX0_slotOf : (Jvm.Cond.selects "HedgesAndDitches$Game" yX0_slotOf yX0_slotOf) ∈ gw := gw_t (gw_t3 (List.mem_of_getElem? (l := tables_1_3) (i := 49) (by decide +kernel))) rfl
theorem qCO_yX0_slotOf : (Jvm.Cond.code yX0_slotOf prog_2_method_27_code (2 : Nat) (Option.some Jvm.ClassFile.FieldType.int)) ∈ gw := gw_t (gw_t3 (List.mem_of_getElem? (l := tables_1_3) (i := 50) (by decide +kernel))) rfl
theorem qML_RX0_103 : (Jvm.Cond.methodLink "HedgesAndDitches$Game" (103 : Nat) yX0_isEdge) ∈ gw := gw_t (gw_t3 (List.mem_of_getElem? (l := tables_1_3) (i := 51) (by decide +kernel))) rfl
theorem qIM_yX0_isEdge : (Jvm.Cond.instanceMethod yX0_isEdge) ∈ gw := gw_t (gw_t3 (List.mem_of_getElem? (l := tables_1_3) (i := 52) (by decide +kernel))) rfl
theorem qSE_yX0_isEdge : (Jvm.Cond.selects "HedgesAndDitches$Game" yX0_isEdge yX0_isEdge) ∈ gw := gw_t (gw_t3 (List.mem_of_getElem? (l := tables_1_3) (i := 53) (by decide +kernel))) rfl
theorem qCO_yX0_isEdge : (Jvm.Cond.code yX0_isEdge prog_2_method_6_code (2 : Nat) (Option.some Jvm.ClassFile.FieldType.boolean)) ∈ gw := gw_t (gw_t3 (List.mem_of_getElem? (l := tables_1_3) (i := 54) (by decide +kernel))) rfl
theorem qML_RX0_107 : (Jvm.Cond.methodLink "HedgesAndDitches$Game" (107 : Nat) yX0_isField) ∈ gw := gw_t (gw_t3 (List.mem_of_getElem? (l := tables_1_3) (i := 55) (by decide +kernel))) rfl
theorem qIM_yX0_isField : (Jvm.Cond.instanceMethod yX0_isField) ∈ gw := gw_t (gw_t3 (List.mem_of_getElem? (l := tables_1_3) (i := 56) (by decide +kernel))) rfl
theorem qSE_yX0_isField : (Jvm.Cond.selects "HedgesAndDitches$Game" yX0_isField yX0_isField) ∈ gw := gw_t (gw_t3 (List.mem_of_getElem? (l := tables_1_3) (i := 57) (by decide +kernel))) rfl
theorem qCO_yX0_isField : (Jvm.Cond.code yX0_isField prog_2_method_5_code (2 : Nat) (Option.some Jvm.ClassFile.FieldType.boolean)) ∈ gw := gw_t (gw_t3 (List.mem_of_getElem? (l := tables_1_3) (i := 58) (by decide +kernel))) rfl
theorem qML_RX3_242 : (Jvm.Cond.methodLink "HedgesAndDitches" (242 : Nat) yX0_isOpen) ∈ gw := gw_t (gw_t3 (List.mem_of_getElem? (l := tables_1_3) (i := 59) (by decide +kernel))) rfl
theorem qIM_yX0_isOpen : (Jvm.Cond.instanceMethod yX0_isOpen) ∈ gw := gw_t (gw_t3 (List.mem_of_getElem? (l := tables_1_3) (i := 60) (by decide +kernel))) rfl
theorem qSE_yX0_isOpen : (Jvm.Cond.selects "HedgesAndDitches$Game" yX0_isOpen yX0_isOpen) ∈ gw := gw_t (gw_t3 (List.mem_of_getElem? (l := tables_1_3) (i := 61) (by decide +kernel))) rfl
theorem qCO_yX0_isOpen : (Jvm.Cond.code yX0_isOpen prog_2_method_31_code (2 : Nat) (Option.some Jvm.ClassFile.FieldType.boolean)) ∈ gw := gw_t (gw_t3 (List.mem_of_getElem? (l := tables_1_3) (i := 62) (by decide +kernel))) rfl
theorem qML_RX0_123 : (Jvm.Cond.methodLink "HedgesAndDitches$Game" (123 : Nat) yX0_openSlots) ∈ gw := gw_t (gw_t3 (List.mem_of_getElem? (l := tables_1_3) (i := 63) (by decide +kernel))) rfl
theorem qML_RX3_311 : (Jvm.Cond.methodLink "HedgesAndDitches" (311 : Nat) yX0_make) ∈ gw := gw_t (gw_t3 (List.mem_of_getElem? (l := tables_1_3) (i := 64) (by decide +kernel))) rfl
theorem qIM_yX0_make : (Jvm.Cond.instanceMethod yX0_make) ∈ gw := gw_t (gw_t3 (List.mem_of_getElem? (l := tables_1_3) (i := 65) (by decide +kernel))) rfl
theorem qSE_yX0_make : (Jvm.Cond.selects "HedgesAndDitches$Game" yX0_make yX0_make) ∈ gw := gw_t (gw_t3 (List.mem_of_getElem? (l := tables_1_3) (i := 66) (by decide +kernel))) rfl
theorem qCO_yX0_make : (Jvm.Cond.code yX0_make prog_2_method_32_code (3 : Nat) (Option.none : Option Jvm.ClassFile.FieldType)) ∈ gw := gw_t (gw_t3 (List.mem_of_getElem? (l := tables_1_3) (i := 67) (by decide +kernel))) rfl
theorem qML_RX0_126 : (Jvm.Cond.methodLink "HedgesAndDitches$Game" (126 : Nat) yX0_closed) ∈ gw := gw_t (gw_t3 (List.mem_of_getElem? (l := tables_1_3) (i := 68) (by decide +kernel))) rfl
theorem qIM_yX0_closed : (Jvm.Cond.instanceMethod yX0_closed) ∈ gw := gw_t (gw_t3 (List.mem_of_getElem? (l := tables_1_3) (i := 69) (by decide +kernel))) rfl
theorem qSE_yX0_closed : (Jvm.Cond.selects "HedgesAndDitches$Game" yX0_closed yX0_closed) ∈ gw := gw_t (gw_t3 (List.mem_of_getElem? (l := tables_1_3) (i := 70) (by decide +kernel))) rfl
theorem qCO_yX0_closed : (Jvm.Cond.code yX0_closed prog_2_method_20_code (3 : Nat) (Option.some Jvm.ClassFile.FieldType.int)) ∈ gw := gw_t (gw_t3 (List.mem_of_getElem? (l := tables_1_3) (i := 71) (by decide +kernel))) rfl
theorem qstringRef_3_72 : (Jvm.Cond.stringRef "HedgesAndDitches" (425 : Nat) "dig") ∈ lw_tbl := List.mem_append_right _ (gw_t3 (List.mem_of_getElem? (l := tables_1_3) (i := 72) (by decide +kernel)))
theorem qstringRef_3_73 : (Jvm.Cond.stringRef "HedgesAndDitches" (427 : Nat) "turn") ∈ lw_tbl := List.mem_append_right _ (gw_t3 (List.mem_of_getElem? (l := tables_1_3) (i := 73) (by decide +kernel)))
theorem qML_RX3_428 : (Jvm.Cond.methodLink "HedgesAndDitches" (428 : Nat) yX3_readTurn) ∈ gw := gw_t (gw_t3 (List.mem_of_getElem? (l := tables_1_3) (i := 74) (by decide +kernel))) rfl
theorem qIM_yX3_readTurn : (Jvm.Cond.instanceMethod yX3_readTurn) ∈ gw := gw_t (gw_t3 (List.mem_of_getElem? (l := tables_1_3) (i := 76) (by decide +kernel))) rfl
theorem qCO_yX3_readTurn : (Jvm.Cond.code yX3_readTurn prog_1_method_94_code (2 : Nat) (Option.some Jvm.ClassFile.FieldType.boolean)) ∈ gw := gw_t (gw_t3 (List.mem_of_getElem? (l := tables_1_3) (i := 77) (by decide +kernel))) rfl
theorem qstringRef_3_78 : (Jvm.Cond.stringRef "HedgesAndDitches" (431 : Nat) "player") ∈ lw_tbl := List.mem_append_right _ (gw_t3 (List.mem_of_getElem? (l := tables_1_3) (i := 78) (by decide +kernel)))
theorem qML_RX3_433 : (Jvm.Cond.methodLink "HedgesAndDitches" (433 : Nat) yX3_readPlayer) ∈ gw := gw_t (gw_t3 (List.mem_of_getElem? (l := tables_1_3) (i := 79) (by decide +kernel))) rfl
theorem qIM_yX3_readPlayer : (Jvm.Cond.instanceMethod yX3_readPlayer) ∈ gw := gw_t (gw_t3 (List.mem_of_getElem? (l := tables_1_3) (i := 81) (by decide +kernel))) rfl
theorem qCO_yX3_readPlayer : (Jvm.Cond.code yX3_readPlayer prog_1_method_95_code (3 : Nat) (Option.some Jvm.ClassFile.FieldType.boolean)) ∈ gw := gw_t (gw_t3 (List.mem_of_getElem? (l := tables_1_3) (i := 82) (by decide +kernel))) rfl
theorem qML_RX3_405 : (Jvm.Cond.methodLink "HedgesAndDitches" (405 : Nat) yX2_isAtEnd) ∈ gw := gw_t (gw_t3 (List.mem_of_getElem? (l := tables_1_3) (i := 83) (by decide +kernel))) rfl
theorem qIM_yX2_isAtEnd : (Jvm.Cond.instanceMethod yX2_isAtEnd) ∈ gw := gw_t (gw_t3 (List.mem_of_getElem? (l := tables_1_3) (i := 84) (by decide +kernel))) rfl
theorem qSE_yX2_isAtEnd : (Jvm.Cond.selects "HedgesAndDitches$Tape" yX2_isAtEnd yX2_isAtEnd) ∈ gw := gw_t (gw_t3 (List.mem_of_getElem? (l := tables_1_3) (i := 85) (by decide +kernel))) rfl
theorem qCO_yX2_isAtEnd : (Jvm.Cond.code yX2_isAtEnd prog_4_method_7_code (1 : Nat) (Option.some Jvm.ClassFile.FieldType.boolean)) ∈ gw := gw_t (gw_t3 (List.mem_of_getElem? (l := tables_1_3) (i := 86) (by decide +kernel))) rfl
theorem qML_RX3_408 : (Jvm.Cond.methodLink "HedgesAndDitches" (408 : Nat) yX2_isSign) ∈ gw := gw_t (gw_t3 (List.mem_of_getElem? (l := tables_1_3) (i := 87) (by decide +kernel))) rfl
theorem qIM_yX2_isSign : (Jvm.Cond.instanceMethod yX2_isSign) ∈ gw := gw_t (gw_t3 (List.mem_of_getElem? (l := tables_1_3) (i := 88) (by decide +kernel))) rfl
theorem qSE_yX2_isSign : (Jvm.Cond.selects "HedgesAndDitches$Tape" yX2_isSign yX2_isSign) ∈ gw := gw_t (gw_t3 (List.mem_of_getElem? (l := tables_1_3) (i := 89) (by decide +kernel))) rfl
theorem qCO_yX2_isSign : (Jvm.Cond.code yX2_isSign prog_4_method_8_code (1 : Nat) (Option.some Jvm.ClassFile.FieldType.boolean)) ∈ gw := gw_t (gw_t3 (List.mem_of_getElem? (l := tables_1_3) (i := 90) (by decide +kernel))) rfl
theorem qarrayClass_3_91 : (Jvm.Cond.arrayClass Jvm.ClassFile.FieldType.byte) ∈ gw := gw_t (gw_t3 (List.mem_of_getElem? (l := tables_1_3) (i := 91) (by decide +kernel))) rfl
theorem qML_RL_74 : (Jvm.Cond.methodLink "HedgesAndDitchesLaw" (74 : Nat) yX3_fieldOf) ∈ gw := gw_t (gw_t3 (List.mem_of_getElem? (l := tables_1_3) (i := 92) (by decide +kernel))) rfl
theorem qIM_yX3_fieldOf : (Jvm.Cond.instanceMethod yX3_fieldOf) ∈ gw := gw_t (gw_t3 (List.mem_of_getElem? (l := tables_1_3) (i := 93) (by decide +kernel))) rfl
theorem qSE_yX3_fieldOf : (Jvm.Cond.selects "HedgesAndDitches" yX3_fieldOf yX3_fieldOf) ∈ gw := gw_t (gw_t3 (List.mem_of_getElem? (l := tables_1_3) (i := 94) (by decide +kernel))) rfl
theorem qCO_yX3_fieldOf : (Jvm.Cond.code yX3_fieldOf prog_1_method_15_code (4 : Nat) (Option.some Jvm.ClassFile.FieldType.int)) ∈ gw := gw_t (gw_t3 (List.mem_of_getElem? (l := tables_1_3) (i := 95) (by decide +kernel))) rfl
theorem qML_RX3_179 : (Jvm.Cond.methodLink "HedgesAndDitches" (179 : Nat) yX0_isField) ∈ gw := gw_t (gw_t3 (List.mem_of_getElem? (l := tables_1_3) (i := 96) (by decide +kernel))) rfl
theorem qML_RX3_182 : (Jvm.Cond.methodLink "HedgesAndDitches" (182 : Nat) yX0_around) ∈ gw := gw_t (gw_t3 (List.mem_of_getElem? (l := tables_1_3) (i := 97) (by decide +kernel))) rfl
theorem qML_RX3_192 : (Jvm.Cond.methodLink "HedgesAndDitches" (192 : Nat) yX3_truth) ∈ gw := gw_t (gw_t3 (List.mem_of_getElem? (l := tables_1_3) (i := 98) (by decide +kernel))) rfl
theorem qML_RX3_202 : (Jvm.Cond.methodLink "HedgesAndDitches" (202 : Nat) yX3_seatOf) ∈ gw := gw_t (gw_t3 (List.mem_of_getElem? (l := tables_1_3) (i := 99) (by decide +kernel))) rfl
theorem qSM_yX3_seatOf : (Jvm.Cond.static yX3_seatOf) ∈ gw := gw_t (gw_t3 (List.mem_of_getElem? (l := tables_1_3) (i := 100) (by decide +kernel))) rfl
theorem qCO_yX3_seatOf : (Jvm.Cond.code yX3_seatOf prog_1_method_66_code (3 : Nat) (Option.some Jvm.ClassFile.FieldType.int)) ∈ gw := gw_t (gw_t3 (List.mem_of_getElem? (l := tables_1_3) (i := 101) (by decide +kernel))) rfl
theorem qML_RX3_206 : (Jvm.Cond.methodLink "HedgesAndDitches" (206 : Nat) yX0_tinted) ∈ gw := gw_t (gw_t3 (List.mem_of_getElem? (l := tables_1_3) (i := 102) (by decide +kernel))) rfl
theorem qIM_yX0_tinted : (Jvm.Cond.instanceMethod yX0_tinted) ∈ gw := gw_t (gw_t3 (List.mem_of_getElem? (l := tables_1_3) (i := 103) (by decide +kernel))) rfl
theorem qSE_yX0_tinted : (Jvm.Cond.selects "HedgesAndDitches$Game" yX0_tinted yX0_tinted) ∈ gw := gw_t (gw_t3 (List.mem_of_getElem? (l := tables_1_3) (i := 104) (by decide +kernel))) rfl
theorem qCO_yX0_tinted : (Jvm.Cond.code yX0_tinted prog_2_method_38_code (2 : Nat) (Option.some Jvm.ClassFile.FieldType.int)) ∈ gw := gw_t (gw_t3 (List.mem_of_getElem? (l := tables_1_3) (i := 105) (by decide +kernel))) rfl
theorem qML_RX0_135 : (Jvm.Cond.methodLink "HedgesAndDitches$Game" (135 : Nat) yX0_ownedBy) ∈ gw := gw_t (gw_t3 (List.mem_of_getElem? (l := tables_1_3) (i := 106) (by decide +kernel))) rfl
theorem qIM_yX0_ownedBy : (Jvm.Cond.instanceMethod yX0_ownedBy) ∈ gw := gw_t (gw_t3 (List.mem_of_getElem? (l := tables_1_3) (i := 107) (by decide +kernel))) rfl
theorem qSE_yX0_ownedBy : (Jvm.Cond.selects "HedgesAndDitches$Game" yX0_ownedBy yX0_ownedBy) ∈ gw := gw_t (gw_t3 (List.mem_of_getElem? (l := tables_1_3) (i := 108) (by decide +kernel))) rfl
theorem qCO_yX0_ownedBy : (Jvm.Cond.code yX0_ownedBy prog_2_method_35_code (2 : Nat) (Option.some Jvm.ClassFile.FieldType.int)) ∈ gw := gw_t (gw_t3 (List.mem_of_getElem? (l := tables_1_3) (i := 109) (by decide +kernel))) rfl
theorem qML_RX0_138 : (Jvm.Cond.methodLink "HedgesAndDitches$Game" (138 : Nat) yX0_dryFields) ∈ gw := gw_t (gw_t3 (List.mem_of_getElem? (l := tables_1_3) (i := 110) (by decide +kernel))) rfl
theorem qIM_yX0_dryFields : (Jvm.Cond.instanceMethod yX0_dryFields) ∈ gw := gw_t (gw_t3 (List.mem_of_getElem? (l := tables_1_3) (i := 111) (by decide +kernel))) rfl
theorem qSE_yX0_dryFields : (Jvm.Cond.selects "HedgesAndDitches$Game" yX0_dryFields yX0_dryFields) ∈ gw := gw_t (gw_t3 (List.mem_of_getElem? (l := tables_1_3) (i := 112) (by decide +kernel))) rfl
theorem qCO_yX0_dryFields : (Jvm.Cond.code yX0_dryFields prog_2_method_37_code (2 : Nat) (Option.some Jvm.ClassFile.FieldType.int)) ∈ gw := gw_t (gw_t3 (List.mem_of_getElem? (l := tables_1_3) (i := 113) (by decide +kernel))) rfl
theorem qML_RX0_132 : (Jvm.Cond.methodLink "HedgesAndDitches$Game" (132 : Nat) yX0_drainedFields) ∈ gw := gw_t (gw_t3 (List.mem_of_getElem? (l := tables_1_3) (i := 114) (by decide +kernel))) rfl
theorem qIM_yX0_drainedFields : (Jvm.Cond.instanceMethod yX0_drainedFields) ∈ gw := gw_t (gw_t3 (List.mem_of_getElem? (l := tables_1_3) (i := 115) (by decide +kernel))) rfl
theorem qSE_yX0_drainedFields : (Jvm.Cond.selects "HedgesAndDitches$Game" yX0_drainedFields yX0_drainedFields) ∈ gw := gw_t (gw_t3 (List.mem_of_getElem? (l := tables_1_3) (i := 116) (by decide +kernel))) rfl
theorem qCO_yX0_drainedFields : (Jvm.Cond.code yX0_drainedFields prog_2_method_36_code (1 : Nat) (Option.some Jvm.ClassFile.FieldType.int)) ∈ gw := gw_t (gw_t3 (List.mem_of_getElem? (l := tables_1_3) (i := 117) (by decide +kernel))) rfl
theorem qML_RX0_129 : (Jvm.Cond.methodLink "HedgesAndDitches$Game" (129 : Nat) yX0_touched) ∈ gw := gw_t (gw_t3 (List.mem_of_getElem? (l := tables_1_3) (i := 118) (by decide +kernel))) rfl
theorem qML_RX0_99 : (Jvm.Cond.methodLink "HedgesAndDitches$Game" (99 : Nat) yX0_hanging) ∈ gw := gw_t (gw_t3 (List.mem_of_getElem? (l := tables_1_3) (i := 119) (by decide +kernel))) rfl
theorem qIM_yX0_hanging : (Jvm.Cond.instanceMethod yX0_hanging) ∈ gw := gw_t (gw_t3 (List.mem_of_getElem? (l := tables_1_3) (i := 120) (by decide +kernel))) rfl
theorem qSE_yX0_hanging : (Jvm.Cond.selects "HedgesAndDitches$Game" yX0_hanging yX0_hanging) ∈ gw := gw_t (gw_t3 (List.mem_of_getElem? (l := tables_1_3) (i := 121) (by decide +kernel))) rfl
theorem qCO_yX0_hanging : (Jvm.Cond.code yX0_hanging prog_2_method_25_code (8 : Nat) (Option.some Jvm.ClassFile.FieldType.int)) ∈ gw := gw_t (gw_t3 (List.mem_of_getElem? (l := tables_1_3) (i := 122) (by decide +kernel))) rfl
theorem qML_RX0_95 : (Jvm.Cond.methodLink "HedgesAndDitches$Game" (95 : Nat) yX0_beside) ∈ gw := gw_t (gw_t3 (List.mem_of_getElem? (l := tables_1_3) (i := 123) (by decide +kernel))) rfl
theorem qIM_yX0_beside : (Jvm.Cond.instanceMethod yX0_beside) ∈ gw := gw_t (gw_t3 (List.mem_of_getElem? (l := tables_1_3) (i := 124) (by decide +kernel))) rfl
theorem qSE_yX0_beside : (Jvm.Cond.selects "HedgesAndDitches$Game" yX0_beside yX0_beside) ∈ gw := gw_t (gw_t3 (List.mem_of_getElem? (l := tables_1_3) (i := 125) (by decide +kernel))) rfl
theorem qCO_yX0_beside : (Jvm.Cond.code yX0_beside prog_2_method_24_code (8 : Nat) (Option.some Jvm.ClassFile.FieldType.int)) ∈ gw := gw_t (gw_t3 (List.mem_of_getElem? (l := tables_1_3) (i := 126) (by decide +kernel))) rfl
theorem qML_RX3_209 : (Jvm.Cond.methodLink "HedgesAndDitches" (209 : Nat) yX0_edgeAbove) ∈ gw := gw_t (gw_t3 (List.mem_of_getElem? (l := tables_1_3) (i := 127) (by decide +kernel))) rfl
theorem qIM_yX0_edgeAbove : (Jvm.Cond.instanceMethod yX0_edgeAbove) ∈ gw := gw_t (gw_t3 (List.mem_of_getElem? (l := tables_1_3) (i := 128) (by decide +kernel))) rfl
theorem qSE_yX0_edgeAbove : (Jvm.Cond.selects "HedgesAndDitches$Game" yX0_edgeAbove yX0_edgeAbove) ∈ gw := gw_t (gw_t3 (List.mem_of_getElem? (l := tables_1_3) (i := 129) (by decide +kernel))) rfl
theorem qCO_yX0_edgeAbove : (Jvm.Cond.code yX0_edgeAbove prog_2_method_9_code (2 : Nat) (Option.some Jvm.ClassFile.FieldType.int)) ∈ gw := gw_t (gw_t3 (List.mem_of_getElem? (l := tables_1_3) (i := 130) (by decide +kernel))) rfl
theorem qML_RX3_212 : (Jvm.Cond.methodLink "HedgesAndDitches" (212 : Nat) yX0_edgeBelow) ∈ gw := gw_t (gw_t3 (List.mem_of_getElem? (l := tables_1_3) (i := 131) (by decide +kernel))) rfl
theorem qIM_yX0_edgeBelow : (Jvm.Cond.instanceMethod yX0_edgeBelow) ∈ gw := gw_t (gw_t3 (List.mem_of_getElem? (l := tables_1_3) (i := 132) (by decide +kernel))) rfl
theorem qSE_yX0_edgeBelow : (Jvm.Cond.selects "HedgesAndDitches$Game" yX0_edgeBelow yX0_edgeBelow) ∈ gw := gw_t (gw_t3 (List.mem_of_getElem? (l := tables_1_3) (i := 133) (by decide +kernel))) rfl
theorem qCO_yX0_edgeBelow : (Jvm.Cond.code yX0_edgeBelow prog_2_method_10_code (2 : Nat) (Option.some Jvm.ClassFile.FieldType.int)) ∈ gw := gw_t (gw_t3 (List.mem_of_getElem? (l := tables_1_3) (i := 134) (by decide +kernel))) rfl
theorem qML_RX3_215 : (Jvm.Cond.methodLink "HedgesAndDitches" (215 : Nat) yX0_edgeLeft) ∈ gw := gw_t (gw_t3 (List.mem_of_getElem? (l := tables_1_3) (i := 135) (by decide +kernel))) rfl
theorem qIM_yX0_edgeLeft : (Jvm.Cond.instanceMethod yX0_edgeLeft) ∈ gw := gw_t (gw_t3 (List.mem_of_getElem? (l := tables_1_3) (i := 136) (by decide +kernel))) rfl
theorem qSE_yX0_edgeLeft : (Jvm.Cond.selects "HedgesAndDitches$Game" yX0_edgeLeft yX0_edgeLeft) ∈ gw := gw_t (gw_t3 (List.mem_of_getElem? (l := tables_1_3) (i := 137) (by decide +kernel))) rfl
theorem qCO_yX0_edgeLeft : (Jvm.Cond.code yX0_edgeLeft prog_2_method_11_code (2 : Nat) (Option.some Jvm.ClassFile.FieldType.int)) ∈ gw := gw_t (gw_t3 (List.mem_of_getElem? (l := tables_1_3) (i := 138) (by decide +kernel))) rfl
theorem qML_RX0_75 : (Jvm.Cond.methodLink "HedgesAndDitches$Game" (75 : Nat) yX0_rowOf) ∈ gw := gw_t (gw_t3 (List.mem_of_getElem? (l := tables_1_3) (i := 139) (by decide +kernel))) rfl
theorem qIM_yX0_rowOf : (Jvm.Cond.instanceMethod yX0_rowOf) ∈ gw := gw_t (gw_t3 (List.mem_of_getElem? (l := tables_1_3) (i := 140) (by decide +kernel))) rfl
theorem qSE_yX0_rowOf : (Jvm.Cond.selects "HedgesAndDitches$Game" yX0_rowOf yX0_rowOf) ∈ gw := gw_t (gw_t3 (List.mem_of_getElem? (l := tables_1_3) (i := 141) (by decide +kernel))) rfl
theorem qCO_yX0_rowOf : (Jvm.Cond.code yX0_rowOf prog_2_method_8_code (2 : Nat) (Option.some Jvm.ClassFile.FieldType.int)) ∈ gw := gw_t (gw_t3 (List.mem_of_getElem? (l := tables_1_3) (i := 142) (by decide +kernel))) rfl
theorem qML_RX3_218 : (Jvm.Cond.methodLink "HedgesAndDitches" (218 : Nat) yX0_edgeRight) ∈ gw := gw_t (gw_t3 (List.mem_of_getElem? (l := tables_1_3) (i := 143) (by decide +kernel))) rfl
theorem qIM_yX0_edgeRight : (Jvm.Cond.instanceMethod yX0_edgeRight) ∈ gw := gw_t (gw_t3 (List.mem_of_getElem? (l := tables_1_3) (i := 144) (by decide +kernel))) rfl
theorem qSE_yX0_edgeRight : (Jvm.Cond.selects "HedgesAndDitches$Game" yX0_edgeRight yX0_edgeRight) ∈ gw := gw_t (gw_t3 (List.mem_of_getElem? (l := tables_1_3) (i := 145) (by decide +kernel))) rfl
theorem qCO_yX0_edgeRight : (Jvm.Cond.code yX0_edgeRight prog_2_method_12_code (2 : Nat) (Option.some Jvm.ClassFile.FieldType.int)) ∈ gw := gw_t (gw_t3 (List.mem_of_getElem? (l := tables_1_3) (i := 146) (by decide +kernel))) rfl
theorem qML_RX0_78 : (Jvm.Cond.methodLink "HedgesAndDitches$Game" (78 : Nat) yX0_edgeLeft) ∈ gw := gw_t (gw_t3 (List.mem_of_getElem? (l := tables_1_3) (i := 147) (by decide +kernel))) rfl
theorem qML_RL_78 : (Jvm.Cond.methodLink "HedgesAndDitchesLaw" (78 : Nat) yX3_edgeOf) ∈ gw := gw_t (gw_t3 (List.mem_of_getElem? (l := tables_1_3) (i := 148) (by decide +kernel))) rfl
theorem qIM_yX3_edgeOf : (Jvm.Cond.instanceMethod yX3_edgeOf) ∈ gw := gw_t (gw_t3 (List.mem_of_getElem? (l := tables_1_3) (i := 149) (by decide +kernel))) rfl
theorem qSE_yX3_edgeOf : (Jvm.Cond.selects "HedgesAndDitches" yX3_edgeOf yX3_edgeOf) ∈ gw := gw_t (gw_t3 (List.mem_of_getElem? (l := tables_1_3) (i := 150) (by decide +kernel))) rfl
theorem qCO_yX3_edgeOf : (Jvm.Cond.code yX3_edgeOf prog_1_method_16_code (3 : Nat) (Option.some Jvm.ClassFile.FieldType.int)) ∈ gw := gw_t (gw_t3 (List.mem_of_getElem? (l := tables_1_3) (i := 151) (by decide +kernel))) rfl
theorem qML_RX3_227 : (Jvm.Cond.methodLink "HedgesAndDitches" (227 : Nat) yX0_isEdge) ∈ gw := gw_t (gw_t3 (List.mem_of_getElem? (l := tables_1_3) (i := 152) (by decide +kernel))) rfl
theorem qML_RX3_230 : (Jvm.Cond.methodLink "HedgesAndDitches" (230 : Nat) yX0_isHedged) ∈ gw := gw_t (gw_t3 (List.mem_of_getElem? (l := tables_1_3) (i := 153) (by decide +kernel))) rfl
theorem qIM_yX0_isHedged : (Jvm.Cond.instanceMethod yX0_isHedged) ∈ gw := gw_t (gw_t3 (List.mem_of_getElem? (l := tables_1_3) (i := 154) (by decide +kernel))) rfl
theorem qSE_yX0_isHedged : (Jvm.Cond.selects "HedgesAndDitches$Game" yX0_isHedged yX0_isHedged) ∈ gw := gw_t (gw_t3 (List.mem_of_getElem? (l := tables_1_3) (i := 155) (by decide +kernel))) rfl
theorem qCO_yX0_isHedged : (Jvm.Cond.code yX0_isHedged prog_2_method_7_code (2 : Nat) (Option.some Jvm.ClassFile.FieldType.boolean)) ∈ gw := gw_t (gw_t3 (List.mem_of_getElem? (l := tables_1_3) (i := 156) (by decide +kernel))) rfl
theorem qML_RX3_233 : (Jvm.Cond.methodLink "HedgesAndDitches" (233 : Nat) yX0_fieldAhead) ∈ gw := gw_t (gw_t3 (List.mem_of_getElem? (l := tables_1_3) (i := 157) (by decide +kernel))) rfl
theorem qML_RX3_236 : (Jvm.Cond.methodLink "HedgesAndDitches" (236 : Nat) yX0_fieldBeyond) ∈ gw := gw_t (gw_t3 (List.mem_of_getElem? (l := tables_1_3) (i := 158) (by decide +kernel))) rfl
theorem qML_RL_82 : (Jvm.Cond.methodLink "HedgesAndDitchesLaw" (82 : Nat) yX3_playerOf) ∈ gw := gw_t (gw_t3 (List.mem_of_getElem? (l := tables_1_3) (i := 159) (by decide +kernel))) rfl
theorem qIM_yX3_playerOf : (Jvm.Cond.instanceMethod yX3_playerOf) ∈ gw := gw_t (gw_t3 (List.mem_of_getElem? (l := tables_1_3) (i := 160) (by decide +kernel))) rfl
theorem qSE_yX3_playerOf : (Jvm.Cond.selects "HedgesAndDitches" yX3_playerOf yX3_playerOf) ∈ gw := gw_t (gw_t3 (List.mem_of_getElem? (l := tables_1_3) (i := 161) (by decide +kernel))) rfl
theorem qCO_yX3_playerOf : (Jvm.Cond.code yX3_playerOf prog_1_method_17_code (3 : Nat) (Option.some Jvm.ClassFile.FieldType.int)) ∈ gw := gw_t (gw_t3 (List.mem_of_getElem? (l := tables_1_3) (i := 162) (by decide +kernel))) rfl
theorem qML_RL_86 : (Jvm.Cond.methodLink "HedgesAndDitchesLaw" (86 : Nat) yX3_may) ∈ gw := gw_t (gw_t3 (List.mem_of_getElem? (l := tables_1_3) (i := 163) (by decide +kernel))) rfl
theorem qIM_yX3_may : (Jvm.Cond.instanceMethod yX3_may) ∈ gw := gw_t (gw_t3 (List.mem_of_getElem? (l := tables_1_3) (i := 164) (by decide +kernel))) rfl
theorem qSE_yX3_may : (Jvm.Cond.selects "HedgesAndDitches" yX3_may yX3_may) ∈ gw := gw_t (gw_t3 (List.mem_of_getElem? (l := tables_1_3) (i := 165) (by decide +kernel))) rfl
theorem qCO_yX3_may : (Jvm.Cond.code yX3_may prog_1_method_18_code (3 : Nat) (Option.some Jvm.ClassFile.FieldType.int)) ∈ gw := gw_t (gw_t3 (List.mem_of_getElem? (l := tables_1_3) (i := 166) (by decide +kernel))) rfl
theorem qML_RL_90 : (Jvm.Cond.methodLink "HedgesAndDitchesLaw" (90 : Nat) yX3_moves) ∈ gw := gw_t (gw_t3 (List.mem_of_getElem? (l := tables_1_3) (i := 167) (by decide +kernel))) rfl
theorem qIM_yX3_moves : (Jvm.Cond.instanceMethod yX3_moves) ∈ gw := gw_t (gw_t3 (List.mem_of_getElem? (l := tables_1_3) (i := 168) (by decide +kernel))) rfl
theorem qSE_yX3_moves : (Jvm.Cond.selects "HedgesAndDitches" yX3_moves yX3_moves) ∈ gw := gw_t (gw_t3 (List.mem_of_getElem? (l := tables_1_3) (i := 169) (by decide +kernel))) rfl
theorem qCO_yX3_moves : (Jvm.Cond.code yX3_moves prog_1_method_19_code (4 : Nat) (Option.some Jvm.ClassFile.FieldType.int)) ∈ gw := gw_t (gw_t3 (List.mem_of_getElem? (l := tables_1_3) (i := 170) (by decide +kernel))) rfl
theorem qML_RX3_245 : (Jvm.Cond.methodLink "HedgesAndDitches" (245 : Nat) yX3_slotAt) ∈ gw := gw_t (gw_t3 (List.mem_of_getElem? (l := tables_1_3) (i := 171) (by decide +kernel))) rfl
theorem qML_RL_94 : (Jvm.Cond.methodLink "HedgesAndDitchesLaw" (94 : Nat) yX3_score) ∈ gw := gw_t (gw_t3 (List.mem_of_getElem? (l := tables_1_3) (i := 172) (by decide +kernel))) rfl
theorem qIM_yX3_score : (Jvm.Cond.instanceMethod yX3_score) ∈ gw := gw_t (gw_t3 (List.mem_of_getElem? (l := tables_1_3) (i := 173) (by decide +kernel))) rfl
theorem qSE_yX3_score : (Jvm.Cond.selects "HedgesAndDitches" yX3_score yX3_score) ∈ gw := gw_t (gw_t3 (List.mem_of_getElem? (l := tables_1_3) (i := 174) (by decide +kernel))) rfl
theorem qCO_yX3_score : (Jvm.Cond.code yX3_score prog_1_method_20_code (2 : Nat) (Option.some Jvm.ClassFile.FieldType.int)) ∈ gw := gw_t (gw_t3 (List.mem_of_getElem? (l := tables_1_3) (i := 175) (by decide +kernel))) rfl
theorem qML_RX3_252 : (Jvm.Cond.methodLink "HedgesAndDitches" (252 : Nat) yX0_scoreOf) ∈ gw := gw_t (gw_t3 (List.mem_of_getElem? (l := tables_1_3) (i := 176) (by decide +kernel))) rfl
theorem qIM_yX0_scoreOf : (Jvm.Cond.instanceMethod yX0_scoreOf) ∈ gw := gw_t (gw_t3 (List.mem_of_getElem? (l := tables_1_3) (i := 177) (by decide +kernel))) rfl
theorem qSE_yX0_scoreOf : (Jvm.Cond.selects "HedgesAndDitches$Game" yX0_scoreOf yX0_scoreOf) ∈ gw := gw_t (gw_t3 (List.mem_of_getElem? (l := tables_1_3) (i := 178) (by decide +kernel))) rfl
theorem qCO_yX0_scoreOf : (Jvm.Cond.code yX0_scoreOf prog_2_method_40_code (2 : Nat) (Option.some Jvm.ClassFile.FieldType.int)) ∈ gw := gw_t (gw_t3 (List.mem_of_getElem? (l := tables_1_3) (i := 179) (by decide +kernel))) rfl
theorem qML_RX0_146 : (Jvm.Cond.methodLink "HedgesAndDitches$Game" (146 : Nat) yX0_tinted) ∈ gw := gw_t (gw_t3 (List.mem_of_getElem? (l := tables_1_3) (i := 180) (by decide +kernel))) rfl
theorem qML_RX0_149 : (Jvm.Cond.methodLink "HedgesAndDitches$Game" (149 : Nat) yX0_lanesAmong) ∈ gw := gw_t (gw_t3 (List.mem_of_getElem? (l := tables_1_3) (i := 181) (by decide +kernel))) rfl
theorem qIM_yX0_lanesAmong : (Jvm.Cond.instanceMethod yX0_lanesAmong) ∈ gw := gw_t (gw_t3 (List.mem_of_getElem? (l := tables_1_3) (i := 182) (by decide +kernel))) rfl
theorem qSE_yX0_lanesAmong : (Jvm.Cond.selects "HedgesAndDitches$Game" yX0_lanesAmong yX0_lanesAmong) ∈ gw := gw_t (gw_t3 (List.mem_of_getElem? (l := tables_1_3) (i := 183) (by decide +kernel))) rfl
theorem qCO_yX0_lanesAmong : (Jvm.Cond.code yX0_lanesAmong prog_2_method_39_code (4 : Nat) (Option.some Jvm.ClassFile.FieldType.int)) ∈ gw := gw_t (gw_t3 (List.mem_of_getElem? (l := tables_1_3) (i := 184) (by decide +kernel))) rfl
theorem qML_RL_98 : (Jvm.Cond.methodLink "HedgesAndDitchesLaw" (98 : Nat) yX3_lead) ∈ gw := gw_t (gw_t3 (List.mem_of_getElem? (l := tables_1_3) (i := 185) (by decide +kernel))) rfl
theorem qIM_yX3_lead : (Jvm.Cond.instanceMethod yX3_lead) ∈ gw := gw_t (gw_t3 (List.mem_of_getElem? (l := tables_1_3) (i := 186) (by decide +kernel))) rfl
theorem qSE_yX3_lead : (Jvm.Cond.selects "HedgesAndDitches" yX3_lead yX3_lead) ∈ gw := gw_t (gw_t3 (List.mem_of_getElem? (l := tables_1_3) (i := 187) (by decide +kernel))) rfl
theorem qCO_yX3_lead : (Jvm.Cond.code yX3_lead prog_1_method_21_code (2 : Nat) (Option.some Jvm.ClassFile.FieldType.int)) ∈ gw := gw_t (gw_t3 (List.mem_of_getElem? (l := tables_1_3) (i := 188) (by decide +kernel))) rfl
theorem qML_RX3_255 : (Jvm.Cond.methodLink "HedgesAndDitches" (255 : Nat) yX0_leadOf) ∈ gw := gw_t (gw_t3 (List.mem_of_getElem? (l := tables_1_3) (i := 189) (by decide +kernel))) rfl
theorem qIM_yX0_leadOf : (Jvm.Cond.instanceMethod yX0_leadOf) ∈ gw := gw_t (gw_t3 (List.mem_of_getElem? (l := tables_1_3) (i := 190) (by decide +kernel))) rfl
theorem qSE_yX0_leadOf : (Jvm.Cond.selects "HedgesAndDitches$Game" yX0_leadOf yX0_leadOf) ∈ gw := gw_t (gw_t3 (List.mem_of_getElem? (l := tables_1_3) (i := 191) (by decide +kernel))) rfl
theorem qCO_yX0_leadOf : (Jvm.Cond.code yX0_leadOf prog_2_method_41_code (5 : Nat) (Option.some Jvm.ClassFile.FieldType.int)) ∈ gw := gw_t (gw_t3 (List.mem_of_getElem? (l := tables_1_3) (i := 192) (by decide +kernel))) rfl
theorem qML_RX3_258 : (Jvm.Cond.methodLink "HedgesAndDitches" (258 : Nat) yX3_refuseLead) ∈ gw := gw_t (gw_t3 (List.mem_of_getElem? (l := tables_1_3) (i := 193) (by decide +kernel))) rfl
theorem qIM_yX3_refuseLead : (Jvm.Cond.instanceMethod yX3_refuseLead) ∈ gw := gw_t (gw_t3 (List.mem_of_getElem? (l := tables_1_3) (i := 195) (by decide +kernel))) rfl
theorem qCO_yX3_refuseLead : (Jvm.Cond.code yX3_refuseLead prog_1_method_61_code (2 : Nat) (Option.some Jvm.ClassFile.FieldType.int)) ∈ gw := gw_t (gw_t3 (List.mem_of_getElem? (l := tables_1_3) (i := 196) (by decide +kernel))) rfl
theorem qML_RL_102 : (Jvm.Cond.methodLink "HedgesAndDitchesLaw" (102 : Nat) yX3_lanes) ∈ gw := gw_t (gw_t3 (List.mem_of_getElem? (l := tables_1_3) (i := 197) (by decide +kernel))) rfl
theorem qIM_yX3_lanes : (Jvm.Cond.instanceMethod yX3_lanes) ∈ gw := gw_t (gw_t3 (List.mem_of_getElem? (l := tables_1_3) (i := 198) (by decide +kernel))) rfl
theorem qSE_yX3_lanes : (Jvm.Cond.selects "HedgesAndDitches" yX3_lanes yX3_lanes) ∈ gw := gw_t (gw_t3 (List.mem_of_getElem? (l := tables_1_3) (i := 199) (by decide +kernel))) rfl
theorem qCO_yX3_lanes : (Jvm.Cond.code yX3_lanes prog_1_method_22_code (2 : Nat) (Option.some Jvm.ClassFile.FieldType.int)) ∈ gw := gw_t (gw_t3 (List.mem_of_getElem? (l := tables_1_3) (i := 200) (by decide +kernel))) rfl
theorem qML_RX3_261 : (Jvm.Cond.methodLink "HedgesAndDitches" (261 : Nat) yX0_lanesAmong) ∈ gw := gw_t (gw_t3 (List.mem_of_getElem? (l := tables_1_3) (i := 201) (by decide +kernel))) rfl
theorem qML_RL_106 : (Jvm.Cond.methodLink "HedgesAndDitchesLaw" (106 : Nat) yX3_ditch) ∈ gw := gw_t (gw_t3 (List.mem_of_getElem? (l := tables_1_3) (i := 202) (by decide +kernel))) rfl
theorem qIM_yX3_ditch : (Jvm.Cond.instanceMethod yX3_ditch) ∈ gw := gw_t (gw_t3 (List.mem_of_getElem? (l := tables_1_3) (i := 203) (by decide +kernel))) rfl
theorem qSE_yX3_ditch : (Jvm.Cond.selects "HedgesAndDitches" yX3_ditch yX3_ditch) ∈ gw := gw_t (gw_t3 (List.mem_of_getElem? (l := tables_1_3) (i := 204) (by decide +kernel))) rfl
theorem qCO_yX3_ditch : (Jvm.Cond.code yX3_ditch prog_1_method_23_code (3 : Nat) (Option.some Jvm.ClassFile.FieldType.int)) ∈ gw := gw_t (gw_t3 (List.mem_of_getElem? (l := tables_1_3) (i := 205) (by decide +kernel))) rfl
theorem qML_RX3_264 : (Jvm.Cond.methodLink "HedgesAndDitches" (264 : Nat) yX0_hanging) ∈ gw := gw_t (gw_t3 (List.mem_of_getElem? (l := tables_1_3) (i := 206) (by decide +kernel))) rfl
theorem qML_RL_110 : (Jvm.Cond.methodLink "HedgesAndDitchesLaw" (110 : Nat) yX3_drained) ∈ gw := gw_t (gw_t3 (List.mem_of_getElem? (l := tables_1_3) (i := 207) (by decide +kernel))) rfl
theorem qIM_yX3_drained : (Jvm.Cond.instanceMethod yX3_drained) ∈ gw := gw_t (gw_t3 (List.mem_of_getElem? (l := tables_1_3) (i := 208) (by decide +kernel))) rfl
theorem qSE_yX3_drained : (Jvm.Cond.selects "HedgesAndDitches" yX3_drained yX3_drained) ∈ gw := gw_t (gw_t3 (List.mem_of_getElem? (l := tables_1_3) (i := 209) (by decide +kernel))) rfl
theorem qCO_yX3_drained : (Jvm.Cond.code yX3_drained prog_1_method_24_code (1 : Nat) (Option.some Jvm.ClassFile.FieldType.int)) ∈ gw := gw_t (gw_t3 (List.mem_of_getElem? (l := tables_1_3) (i := 210) (by decide +kernel))) rfl
theorem qML_RX3_268 : (Jvm.Cond.methodLink "HedgesAndDitches" (268 : Nat) yX0_drainedFields) ∈ gw := gw_t (gw_t3 (List.mem_of_getElem? (l := tables_1_3) (i := 211) (by decide +kernel))) rfl
theorem qML_RL_114 : (Jvm.Cond.methodLink "HedgesAndDitchesLaw" (114 : Nat) yX3_thirds) ∈ gw := gw_t (gw_t3 (List.mem_of_getElem? (l := tables_1_3) (i := 212) (by decide +kernel))) rfl
theorem qIM_yX3_thirds : (Jvm.Cond.instanceMethod yX3_thirds) ∈ gw := gw_t (gw_t3 (List.mem_of_getElem? (l := tables_1_3) (i := 213) (by decide +kernel))) rfl
theorem qSE_yX3_thirds : (Jvm.Cond.selects "HedgesAndDitches" yX3_thirds yX3_thirds) ∈ gw := gw_t (gw_t3 (List.mem_of_getElem? (l := tables_1_3) (i := 214) (by decide +kernel))) rfl
theorem qCO_yX3_thirds : (Jvm.Cond.code yX3_thirds prog_1_method_25_code (1 : Nat) (Option.some Jvm.ClassFile.FieldType.int)) ∈ gw := gw_t (gw_t3 (List.mem_of_getElem? (l := tables_1_3) (i := 215) (by decide +kernel))) rfl
theorem qML_RX3_271 : (Jvm.Cond.methodLink "HedgesAndDitches" (271 : Nat) yX0_withThree) ∈ gw := gw_t (gw_t3 (List.mem_of_getElem? (l := tables_1_3) (i := 216) (by decide +kernel))) rfl
theorem qML_RL_118 : (Jvm.Cond.methodLink "HedgesAndDitchesLaw" (118 : Nat) yX3_chain) ∈ gw := gw_t (gw_t3 (List.mem_of_getElem? (l := tables_1_3) (i := 217) (by decide +kernel))) rfl
theorem qIM_yX3_chain : (Jvm.Cond.instanceMethod yX3_chain) ∈ gw := gw_t (gw_t3 (List.mem_of_getElem? (l := tables_1_3) (i := 218) (by decide +kernel))) rfl
theorem qSE_yX3_chain : (Jvm.Cond.selects "HedgesAndDitches" yX3_chain yX3_chain) ∈ gw := gw_t (gw_t3 (List.mem_of_getElem? (l := tables_1_3) (i := 219) (by decide +kernel))) rfl
theorem qCO_yX3_chain : (Jvm.Cond.code yX3_chain prog_1_method_26_code (2 : Nat) (Option.some Jvm.ClassFile.FieldType.int)) ∈ gw := gw_t (gw_t3 (List.mem_of_getElem? (l := tables_1_3) (i := 220) (by decide +kernel))) rfl
theorem qML_RX3_274 : (Jvm.Cond.methodLink "HedgesAndDitches" (274 : Nat) yX0_chainFrom) ∈ gw := gw_t (gw_t3 (List.mem_of_getElem? (l := tables_1_3) (i := 221) (by decide +kernel))) rfl
theorem qIM_yX0_chainFrom : (Jvm.Cond.instanceMethod yX0_chainFrom) ∈ gw := gw_t (gw_t3 (List.mem_of_getElem? (l := tables_1_3) (i := 222) (by decide +kernel))) rfl
theorem qSE_yX0_chainFrom : (Jvm.Cond.selects "HedgesAndDitches$Game" yX0_chainFrom yX0_chainFrom) ∈ gw := gw_t (gw_t3 (List.mem_of_getElem? (l := tables_1_3) (i := 223) (by decide +kernel))) rfl
theorem qCO_yX0_chainFrom : (Jvm.Cond.code yX0_chainFrom prog_2_method_47_code (8 : Nat) (Option.some Jvm.ClassFile.FieldType.int)) ∈ gw := gw_t (gw_t3 (List.mem_of_getElem? (l := tables_1_3) (i := 224) (by decide +kernel))) rfl
theorem qMN_RX0_173 : (Jvm.Cond.methodLinkNest "HedgesAndDitches$Game" (173 : Nat) yX3_firstSlot "HedgesAndDitches") ∈ lw_tbl := List.mem_append_right _ (gw_t3 (List.mem_of_getElem? (l := tables_1_3) (i := 225) (by decide +kernel)))
theorem qML_RL_122 : (Jvm.Cond.methodLink "HedgesAndDitchesLaw" (122 : Nat) yX3_longest) ∈ gw := gw_t (gw_t3 (List.mem_of_getElem? (l := tables_1_3) (i := 226) (by decide +kernel))) rfl
theorem qIM_yX3_longest : (Jvm.Cond.instanceMethod yX3_longest) ∈ gw := gw_t (gw_t3 (List.mem_of_getElem? (l := tables_1_3) (i := 227) (by decide +kernel))) rfl
theorem qSE_yX3_longest : (Jvm.Cond.selects "HedgesAndDitches" yX3_longest yX3_longest) ∈ gw := gw_t (gw_t3 (List.mem_of_getElem? (l := tables_1_3) (i := 228) (by decide +kernel))) rfl
theorem qCO_yX3_longest : (Jvm.Cond.code yX3_longest prog_1_method_27_code (5 : Nat) (Option.some Jvm.ClassFile.FieldType.int)) ∈ gw := gw_t (gw_t3 (List.mem_of_getElem? (l := tables_1_3) (i := 229) (by decide +kernel))) rfl
theorem qML_RL_126 : (Jvm.Cond.methodLink "HedgesAndDitchesLaw" (126 : Nat) yX3_shuts) ∈ gw := gw_t (gw_t3 (List.mem_of_getElem? (l := tables_1_3) (i := 230) (by decide +kernel))) rfl
theorem qIM_yX3_shuts : (Jvm.Cond.instanceMethod yX3_shuts) ∈ gw := gw_t (gw_t3 (List.mem_of_getElem? (l := tables_1_3) (i := 231) (by decide +kernel))) rfl
theorem qSE_yX3_shuts : (Jvm.Cond.selects "HedgesAndDitches" yX3_shuts yX3_shuts) ∈ gw := gw_t (gw_t3 (List.mem_of_getElem? (l := tables_1_3) (i := 232) (by decide +kernel))) rfl
theorem qCO_yX3_shuts : (Jvm.Cond.code yX3_shuts prog_1_method_28_code (2 : Nat) (Option.some Jvm.ClassFile.FieldType.int)) ∈ gw := gw_t (gw_t3 (List.mem_of_getElem? (l := tables_1_3) (i := 233) (by decide +kernel))) rfl
theorem qML_RX3_280 : (Jvm.Cond.methodLink "HedgesAndDitches" (280 : Nat) yX0_closed) ∈ gw := gw_t (gw_t3 (List.mem_of_getElem? (l := tables_1_3) (i := 234) (by decide +kernel))) rfl
theorem qML_RX3_283 : (Jvm.Cond.methodLink "HedgesAndDitches" (283 : Nat) yX0_shutFields) ∈ gw := gw_t (gw_t3 (List.mem_of_getElem? (l := tables_1_3) (i := 235) (by decide +kernel))) rfl
theorem qML_RX3_286 : (Jvm.Cond.methodLink "HedgesAndDitches" (286 : Nat) yJ6_bitCount_0f7a4) ∈ gw := gw_t (gw_t3 (List.mem_of_getElem? (l := tables_1_3) (i := 236) (by decide +kernel))) rfl
theorem qML_RL_130 : (Jvm.Cond.methodLink "HedgesAndDitchesLaw" (130 : Nat) yX3_calm) ∈ gw := gw_t (gw_t3 (List.mem_of_getElem? (l := tables_1_3) (i := 237) (by decide +kernel))) rfl
theorem qIM_yX3_calm : (Jvm.Cond.instanceMethod yX3_calm) ∈ gw := gw_t (gw_t3 (List.mem_of_getElem? (l := tables_1_3) (i := 238) (by decide +kernel))) rfl
theorem qSE_yX3_calm : (Jvm.Cond.selects "HedgesAndDitches" yX3_calm yX3_calm) ∈ gw := gw_t (gw_t3 (List.mem_of_getElem? (l := tables_1_3) (i := 239) (by decide +kernel))) rfl
theorem qCO_yX3_calm : (Jvm.Cond.code yX3_calm prog_1_method_29_code (1 : Nat) (Option.some Jvm.ClassFile.FieldType.int)) ∈ gw := gw_t (gw_t4 (List.mem_of_getElem? (l := tables_1_4) (i := 0) (by decide +kernel))) rfl
theorem qML_RL_134 : (Jvm.Cond.methodLink "HedgesAndDitchesLaw" (134 : Nat) yX3_part) ∈ gw := gw_t (gw_t4 (List.mem_of_getElem? (l := tables_1_4) (i := 1) (by decide +kernel))) rfl
theorem qIM_yX3_part : (Jvm.Cond.instanceMethod yX3_part) ∈ gw := gw_t (gw_t4 (List.mem_of_getElem? (l := tables_1_4) (i := 2) (by decide +kernel))) rfl
theorem qSE_yX3_part : (Jvm.Cond.selects "HedgesAndDitches" yX3_part yX3_part) ∈ gw := gw_t (gw_t4 (List.mem_of_getElem? (l := tables_1_4) (i := 3) (by decide +kernel))) rfl
theorem qCO_yX3_part : (Jvm.Cond.code yX3_part prog_1_method_30_code (2 : Nat) (Option.some Jvm.ClassFile.FieldType.int)) ∈ gw := gw_t (gw_t4 (List.mem_of_getElem? (l := tables_1_4) (i := 4) (by decide +kernel))) rfl
theorem qML_RL_138 : (Jvm.Cond.methodLink "HedgesAndDitchesLaw" (138 : Nat) yX3_parts) ∈ gw := gw_t (gw_t4 (List.mem_of_getElem? (l := tables_1_4) (i := 5) (by decide +kernel))) rfl
theorem qIM_yX3_parts : (Jvm.Cond.instanceMethod yX3_parts) ∈ gw := gw_t (gw_t4 (List.mem_of_getElem? (l := tables_1_4) (i := 6) (by decide +kernel))) rfl
theorem qSE_yX3_parts : (Jvm.Cond.selects "HedgesAndDitches" yX3_parts yX3_parts) ∈ gw := gw_t (gw_t4 (List.mem_of_getElem? (l := tables_1_4) (i := 7) (by decide +kernel))) rfl
theorem qCO_yX3_parts : (Jvm.Cond.code yX3_parts prog_1_method_31_code (1 : Nat) (Option.some Jvm.ClassFile.FieldType.int)) ∈ gw := gw_t (gw_t4 (List.mem_of_getElem? (l := tables_1_4) (i := 8) (by decide +kernel))) rfl
theorem qML_RX3_296 : (Jvm.Cond.methodLink "HedgesAndDitches" (296 : Nat) yX0_countHanging) ∈ gw := gw_t (gw_t4 (List.mem_of_getElem? (l := tables_1_4) (i := 9) (by decide +kernel))) rfl
theorem qIM_yX0_countHanging : (Jvm.Cond.instanceMethod yX0_countHanging) ∈ gw := gw_t (gw_t4 (List.mem_of_getElem? (l := tables_1_4) (i := 10) (by decide +kernel))) rfl
theorem qSE_yX0_countHanging : (Jvm.Cond.selects "HedgesAndDitches$Game" yX0_countHanging yX0_countHanging) ∈ gw := gw_t (gw_t4 (List.mem_of_getElem? (l := tables_1_4) (i := 11) (by decide +kernel))) rfl
theorem qCO_yX0_countHanging : (Jvm.Cond.code yX0_countHanging prog_2_method_26_code (7 : Nat) (Option.some Jvm.ClassFile.FieldType.int)) ∈ gw := gw_t (gw_t4 (List.mem_of_getElem? (l := tables_1_4) (i := 12) (by decide +kernel))) rfl
theorem qML_RL_142 : (Jvm.Cond.methodLink "HedgesAndDitchesLaw" (142 : Nat) yX3_ditches) ∈ gw := gw_t (gw_t4 (List.mem_of_getElem? (l := tables_1_4) (i := 13) (by decide +kernel))) rfl
theorem qIM_yX3_ditches : (Jvm.Cond.instanceMethod yX3_ditches) ∈ gw := gw_t (gw_t4 (List.mem_of_getElem? (l := tables_1_4) (i := 14) (by decide +kernel))) rfl
theorem qSE_yX3_ditches : (Jvm.Cond.selects "HedgesAndDitches" yX3_ditches yX3_ditches) ∈ gw := gw_t (gw_t4 (List.mem_of_getElem? (l := tables_1_4) (i := 15) (by decide +kernel))) rfl
theorem qCO_yX3_ditches : (Jvm.Cond.code yX3_ditches prog_1_method_32_code (1 : Nat) (Option.some Jvm.ClassFile.FieldType.int)) ∈ gw := gw_t (gw_t4 (List.mem_of_getElem? (l := tables_1_4) (i := 16) (by decide +kernel))) rfl
theorem qML_RL_146 : (Jvm.Cond.methodLink "HedgesAndDitchesLaw" (146 : Nat) yX3_owned) ∈ gw := gw_t (gw_t4 (List.mem_of_getElem? (l := tables_1_4) (i := 17) (by decide +kernel))) rfl
theorem qIM_yX3_owned : (Jvm.Cond.instanceMethod yX3_owned) ∈ gw := gw_t (gw_t4 (List.mem_of_getElem? (l := tables_1_4) (i := 18) (by decide +kernel))) rfl
theorem qSE_yX3_owned : (Jvm.Cond.selects "HedgesAndDitches" yX3_owned yX3_owned) ∈ gw := gw_t (gw_t4 (List.mem_of_getElem? (l := tables_1_4) (i := 19) (by decide +kernel))) rfl
theorem qCO_yX3_owned : (Jvm.Cond.code yX3_owned prog_1_method_33_code (2 : Nat) (Option.some Jvm.ClassFile.FieldType.int)) ∈ gw := gw_t (gw_t4 (List.mem_of_getElem? (l := tables_1_4) (i := 20) (by decide +kernel))) rfl
theorem qML_RX3_300 : (Jvm.Cond.methodLink "HedgesAndDitches" (300 : Nat) yX0_ownedBy) ∈ gw := gw_t (gw_t4 (List.mem_of_getElem? (l := tables_1_4) (i := 21) (by decide +kernel))) rfl
theorem qML_RL_150 : (Jvm.Cond.methodLink "HedgesAndDitchesLaw" (150 : Nat) yX3_coloured) ∈ gw := gw_t (gw_t4 (List.mem_of_getElem? (l := tables_1_4) (i := 22) (by decide +kernel))) rfl
theorem qIM_yX3_coloured : (Jvm.Cond.instanceMethod yX3_coloured) ∈ gw := gw_t (gw_t4 (List.mem_of_getElem? (l := tables_1_4) (i := 23) (by decide +kernel))) rfl
theorem qSE_yX3_coloured : (Jvm.Cond.selects "HedgesAndDitches" yX3_coloured yX3_coloured) ∈ gw := gw_t (gw_t4 (List.mem_of_getElem? (l := tables_1_4) (i := 24) (by decide +kernel))) rfl
theorem qCO_yX3_coloured : (Jvm.Cond.code yX3_coloured prog_1_method_34_code (2 : Nat) (Option.some Jvm.ClassFile.FieldType.int)) ∈ gw := gw_t (gw_t4 (List.mem_of_getElem? (l := tables_1_4) (i := 25) (by decide +kernel))) rfl
theorem qML_RL_154 : (Jvm.Cond.methodLink "HedgesAndDitchesLaw" (154 : Nat) yX3_gives) ∈ gw := gw_t (gw_t4 (List.mem_of_getElem? (l := tables_1_4) (i := 26) (by decide +kernel))) rfl
theorem qIM_yX3_gives : (Jvm.Cond.instanceMethod yX3_gives) ∈ gw := gw_t (gw_t4 (List.mem_of_getElem? (l := tables_1_4) (i := 27) (by decide +kernel))) rfl
theorem qSE_yX3_gives : (Jvm.Cond.selects "HedgesAndDitches" yX3_gives yX3_gives) ∈ gw := gw_t (gw_t4 (List.mem_of_getElem? (l := tables_1_4) (i := 28) (by decide +kernel))) rfl
theorem qCO_yX3_gives : (Jvm.Cond.code yX3_gives prog_1_method_35_code (2 : Nat) (Option.some Jvm.ClassFile.FieldType.int)) ∈ gw := gw_t (gw_t4 (List.mem_of_getElem? (l := tables_1_4) (i := 29) (by decide +kernel))) rfl
theorem qML_RL_158 : (Jvm.Cond.methodLink "HedgesAndDitchesLaw" (158 : Nat) yX3_gaps) ∈ gw := gw_t (gw_t4 (List.mem_of_getElem? (l := tables_1_4) (i := 30) (by decide +kernel))) rfl
theorem qIM_yX3_gaps : (Jvm.Cond.instanceMethod yX3_gaps) ∈ gw := gw_t (gw_t4 (List.mem_of_getElem? (l := tables_1_4) (i := 31) (by decide +kernel))) rfl
theorem qSE_yX3_gaps : (Jvm.Cond.selects "HedgesAndDitches" yX3_gaps yX3_gaps) ∈ gw := gw_t (gw_t4 (List.mem_of_getElem? (l := tables_1_4) (i := 32) (by decide +kernel))) rfl
theorem qCO_yX3_gaps : (Jvm.Cond.code yX3_gaps prog_1_method_36_code (1 : Nat) (Option.some Jvm.ClassFile.FieldType.int)) ∈ gw := gw_t (gw_t4 (List.mem_of_getElem? (l := tables_1_4) (i := 33) (by decide +kernel))) rfl
theorem qCL_RX3_303 : (Jvm.Cond.constantLong "HedgesAndDitches" (303 : Nat) (-1 : Int64)) ∈ gw := gw_t (gw_t4 (List.mem_of_getElem? (l := tables_1_4) (i := 34) (by decide +kernel))) rfl
theorem qML_RL_162 : (Jvm.Cond.methodLink "HedgesAndDitchesLaw" (162 : Nat) yX3_rim) ∈ gw := gw_t (gw_t4 (List.mem_of_getElem? (l := tables_1_4) (i := 35) (by decide +kernel))) rfl
theorem qIM_yX3_rim : (Jvm.Cond.instanceMethod yX3_rim) ∈ gw := gw_t (gw_t4 (List.mem_of_getElem? (l := tables_1_4) (i := 36) (by decide +kernel))) rfl
theorem qSE_yX3_rim : (Jvm.Cond.selects "HedgesAndDitches" yX3_rim yX3_rim) ∈ gw := gw_t (gw_t4 (List.mem_of_getElem? (l := tables_1_4) (i := 37) (by decide +kernel))) rfl
theorem qCO_yX3_rim : (Jvm.Cond.code yX3_rim prog_1_method_37_code (1 : Nat) (Option.some Jvm.ClassFile.FieldType.int)) ∈ gw := gw_t (gw_t4 (List.mem_of_getElem? (l := tables_1_4) (i := 38) (by decide +kernel))) rfl
theorem qML_RL_166 : (Jvm.Cond.methodLink "HedgesAndDitchesLaw" (166 : Nat) yX3_leader) ∈ gw := gw_t (gw_t4 (List.mem_of_getElem? (l := tables_1_4) (i := 39) (by decide +kernel))) rfl
theorem qIM_yX3_leader : (Jvm.Cond.instanceMethod yX3_leader) ∈ gw := gw_t (gw_t4 (List.mem_of_getElem? (l := tables_1_4) (i := 40) (by decide +kernel))) rfl
theorem qSE_yX3_leader : (Jvm.Cond.selects "HedgesAndDitches" yX3_leader yX3_leader) ∈ gw := gw_t (gw_t4 (List.mem_of_getElem? (l := tables_1_4) (i := 41) (by decide +kernel))) rfl
theorem qCO_yX3_leader : (Jvm.Cond.code yX3_leader prog_1_method_38_code (2 : Nat) (Option.some Jvm.ClassFile.FieldType.int)) ∈ gw := gw_t (gw_t4 (List.mem_of_getElem? (l := tables_1_4) (i := 42) (by decide +kernel))) rfl
theorem qML_RL_170 : (Jvm.Cond.methodLink "HedgesAndDitchesLaw" (170 : Nat) yX3_bare) ∈ gw := gw_t (gw_t4 (List.mem_of_getElem? (l := tables_1_4) (i := 43) (by decide +kernel))) rfl
theorem qIM_yX3_bare : (Jvm.Cond.instanceMethod yX3_bare) ∈ gw := gw_t (gw_t4 (List.mem_of_getElem? (l := tables_1_4) (i := 44) (by decide +kernel))) rfl
theorem qSE_yX3_bare : (Jvm.Cond.selects "HedgesAndDitches" yX3_bare yX3_bare) ∈ gw := gw_t (gw_t4 (List.mem_of_getElem? (l := tables_1_4) (i := 45) (by decide +kernel))) rfl
theorem qCO_yX3_bare : (Jvm.Cond.code yX3_bare prog_1_method_39_code (1 : Nat) (Option.some Jvm.ClassFile.FieldType.int)) ∈ gw := gw_t (gw_t4 (List.mem_of_getElem? (l := tables_1_4) (i := 46) (by decide +kernel))) rfl
theorem qML_RL_174 : (Jvm.Cond.methodLink "HedgesAndDitchesLaw" (174 : Nat) yX3_soft) ∈ gw := gw_t (gw_t4 (List.mem_of_getElem? (l := tables_1_4) (i := 47) (by decide +kernel))) rfl
theorem qIM_yX3_soft : (Jvm.Cond.instanceMethod yX3_soft) ∈ gw := gw_t (gw_t4 (List.mem_of_getElem? (l := tables_1_4) (i := 48) (by decide +kernel))) rfl
theorem qSE_yX3_soft : (Jvm.Cond.selects "HedgesAndDitches" yX3_soft yX3_soft) ∈ gw := gw_t (gw_t4 (List.mem_of_getElem? (l := tables_1_4) (i := 49) (by decide +kernel))) rfl
theorem qCO_yX3_soft : (Jvm.Cond.code yX3_soft prog_1_method_40_code (1 : Nat) (Option.some Jvm.ClassFile.FieldType.int)) ∈ gw := gw_t (gw_t4 (List.mem_of_getElem? (l := tables_1_4) (i := 50) (by decide +kernel))) rfl
theorem qML_RX3_305 : (Jvm.Cond.methodLink "HedgesAndDitches" (305 : Nat) yX0_softFields) ∈ gw := gw_t (gw_t4 (List.mem_of_getElem? (l := tables_1_4) (i := 51) (by decide +kernel))) rfl
theorem qML_RL_178 : (Jvm.Cond.methodLink "HedgesAndDitchesLaw" (178 : Nat) yX3_after) ∈ gw := gw_t (gw_t4 (List.mem_of_getElem? (l := tables_1_4) (i := 52) (by decide +kernel))) rfl
theorem qIM_yX3_after : (Jvm.Cond.instanceMethod yX3_after) ∈ gw := gw_t (gw_t4 (List.mem_of_getElem? (l := tables_1_4) (i := 53) (by decide +kernel))) rfl
theorem qSE_yX3_after : (Jvm.Cond.selects "HedgesAndDitches" yX3_after yX3_after) ∈ gw := gw_t (gw_t4 (List.mem_of_getElem? (l := tables_1_4) (i := 54) (by decide +kernel))) rfl
theorem qCO_yX3_after : (Jvm.Cond.code yX3_after prog_1_method_41_code (3 : Nat) (Option.some Jvm.ClassFile.FieldType.int)) ∈ gw := gw_t (gw_t4 (List.mem_of_getElem? (l := tables_1_4) (i := 55) (by decide +kernel))) rfl
theorem qML_RX3_308 : (Jvm.Cond.methodLink "HedgesAndDitches" (308 : Nat) yX3_isNearEnd) ∈ gw := gw_t (gw_t4 (List.mem_of_getElem? (l := tables_1_4) (i := 56) (by decide +kernel))) rfl
theorem qIM_yX3_isNearEnd : (Jvm.Cond.instanceMethod yX3_isNearEnd) ∈ gw := gw_t (gw_t4 (List.mem_of_getElem? (l := tables_1_4) (i := 58) (by decide +kernel))) rfl
theorem qCO_yX3_isNearEnd : (Jvm.Cond.code yX3_isNearEnd prog_1_method_86_code (1 : Nat) (Option.some Jvm.ClassFile.FieldType.boolean)) ∈ gw := gw_t (gw_t4 (List.mem_of_getElem? (l := tables_1_4) (i := 59) (by decide +kernel))) rfl
theorem qML_RX3_314 : (Jvm.Cond.methodLink "HedgesAndDitches" (314 : Nat) yX3_outcome) ∈ gw := gw_t (gw_t4 (List.mem_of_getElem? (l := tables_1_4) (i := 60) (by decide +kernel))) rfl
theorem qSM_yX3_outcome : (Jvm.Cond.static yX3_outcome) ∈ gw := gw_t (gw_t4 (List.mem_of_getElem? (l := tables_1_4) (i := 61) (by decide +kernel))) rfl
theorem qCO_yX3_outcome : (Jvm.Cond.code yX3_outcome prog_1_method_87_code (13 : Nat) (Option.some Jvm.ClassFile.FieldType.int)) ∈ gw := gw_t (gw_t4 (List.mem_of_getElem? (l := tables_1_4) (i := 62) (by decide +kernel))) rfl
theorem qML_RX3_390 : (Jvm.Cond.methodLink "HedgesAndDitches" (390 : Nat) yJ9_max_7cf53) ∈ gw := gw_t (gw_t4 (List.mem_of_getElem? (l := tables_1_4) (i := 63) (by decide +kernel))) rfl
theorem qSM_yJ9_max_7cf53 : (Jvm.Cond.static yJ9_max_7cf53) ∈ gw := gw_t (gw_t4 (List.mem_of_getElem? (l := tables_1_4) (i := 64) (by decide +kernel))) rfl
theorem qCO_yJ9_max_7cf53 : (Jvm.Cond.code yJ9_max_7cf53 prog_9_method_65_code (2 : Nat) (Option.some Jvm.ClassFile.FieldType.int)) ∈ gw := gw_t (gw_t4 (List.mem_of_getElem? (l := tables_1_4) (i := 65) (by decide +kernel))) rfl
theorem qML_RX3_395 : (Jvm.Cond.methodLink "HedgesAndDitches" (395 : Nat) yX0_unmake) ∈ gw := gw_t (gw_t4 (List.mem_of_getElem? (l := tables_1_4) (i := 66) (by decide +kernel))) rfl
theorem qIM_yX0_unmake : (Jvm.Cond.instanceMethod yX0_unmake) ∈ gw := gw_t (gw_t4 (List.mem_of_getElem? (l := tables_1_4) (i := 67) (by decide +kernel))) rfl
theorem qSE_yX0_unmake : (Jvm.Cond.selects "HedgesAndDitches$Game" yX0_unmake yX0_unmake) ∈ gw := gw_t (gw_t4 (List.mem_of_getElem? (l := tables_1_4) (i := 68) (by decide +kernel))) rfl
theorem qCO_yX0_unmake : (Jvm.Cond.code yX0_unmake prog_2_method_33_code (6 : Nat) (Option.none : Option Jvm.ClassFile.FieldType)) ∈ gw := gw_t (gw_t4 (List.mem_of_getElem? (l := tables_1_4) (i := 69) (by decide +kernel))) rfl
theorem qML_RL_182 : (Jvm.Cond.methodLink "HedgesAndDitchesLaw" (182 : Nat) yX3_best) ∈ gw := gw_t (gw_t4 (List.mem_of_getElem? (l := tables_1_4) (i := 70) (by decide +kernel))) rfl
theorem qIM_yX3_best : (Jvm.Cond.instanceMethod yX3_best) ∈ gw := gw_t (gw_t4 (List.mem_of_getElem? (l := tables_1_4) (i := 71) (by decide +kernel))) rfl
theorem qSE_yX3_best : (Jvm.Cond.selects "HedgesAndDitches" yX3_best yX3_best) ∈ gw := gw_t (gw_t4 (List.mem_of_getElem? (l := tables_1_4) (i := 72) (by decide +kernel))) rfl
theorem qCO_yX3_best : (Jvm.Cond.code yX3_best prog_1_method_42_code (8 : Nat) (Option.some Jvm.ClassFile.FieldType.int)) ∈ gw := gw_t (gw_t4 (List.mem_of_getElem? (l := tables_1_4) (i := 73) (by decide +kernel))) rfl
theorem qML_RL_186 : (Jvm.Cond.methodLink "HedgesAndDitchesLaw" (186 : Nat) yX3_worth) ∈ gw := gw_t (gw_t4 (List.mem_of_getElem? (l := tables_1_4) (i := 74) (by decide +kernel))) rfl
theorem qIM_yX3_worth : (Jvm.Cond.instanceMethod yX3_worth) ∈ gw := gw_t (gw_t4 (List.mem_of_getElem? (l := tables_1_4) (i := 75) (by decide +kernel))) rfl
theorem qSE_yX3_worth : (Jvm.Cond.selects "HedgesAndDitches" yX3_worth yX3_worth) ∈ gw := gw_t (gw_t4 (List.mem_of_getElem? (l := tables_1_4) (i := 76) (by decide +kernel))) rfl
theorem qCO_yX3_worth : (Jvm.Cond.code yX3_worth prog_1_method_43_code (1 : Nat) (Option.some Jvm.ClassFile.FieldType.int)) ∈ gw := gw_t (gw_t4 (List.mem_of_getElem? (l := tables_1_4) (i := 77) (by decide +kernel))) rfl
theorem qML_RL_190 : (Jvm.Cond.methodLink "HedgesAndDitchesLaw" (190 : Nat) yX3_choice) ∈ gw := gw_t (gw_t4 (List.mem_of_getElem? (l := tables_1_4) (i := 78) (by decide +kernel))) rfl
theorem qIM_yX3_choice : (Jvm.Cond.instanceMethod yX3_choice) ∈ gw := gw_t (gw_t4 (List.mem_of_getElem? (l := tables_1_4) (i := 79) (by decide +kernel))) rfl
theorem qSE_yX3_choice : (Jvm.Cond.selects "HedgesAndDitches" yX3_choice yX3_choice) ∈ gw := gw_t (gw_t4 (List.mem_of_getElem? (l := tables_1_4) (i := 80) (by decide +kernel))) rfl
theorem qCO_yX3_choice : (Jvm.Cond.code yX3_choice prog_1_method_44_code (2 : Nat) (Option.some Jvm.ClassFile.FieldType.int)) ∈ gw := gw_t (gw_t4 (List.mem_of_getElem? (l := tables_1_4) (i := 81) (by decide +kernel))) rfl
theorem qML_RL_194 : (Jvm.Cond.methodLink "HedgesAndDitchesLaw" (194 : Nat) yX3_played) ∈ gw := gw_t (gw_t4 (List.mem_of_getElem? (l := tables_1_4) (i := 82) (by decide +kernel))) rfl
theorem qIM_yX3_played : (Jvm.Cond.instanceMethod yX3_played) ∈ gw := gw_t (gw_t4 (List.mem_of_getElem? (l := tables_1_4) (i := 83) (by decide +kernel))) rfl
theorem qSE_yX3_played : (Jvm.Cond.selects "HedgesAndDitches" yX3_played yX3_played) ∈ gw := gw_t (gw_t4 (List.mem_of_getElem? (l := tables_1_4) (i := 84) (by decide +kernel))) rfl
theorem qCO_yX3_played : (Jvm.Cond.code yX3_played prog_1_method_45_code (5 : Nat) (Option.some Jvm.ClassFile.FieldType.int)) ∈ gw := gw_t (gw_t4 (List.mem_of_getElem? (l := tables_1_4) (i := 85) (by decide +kernel))) rfl
theorem qML_RX3_321 : (Jvm.Cond.methodLink "HedgesAndDitches" (321 : Nat) yX3_playOut) ∈ gw := gw_t (gw_t4 (List.mem_of_getElem? (l := tables_1_4) (i := 86) (by decide +kernel))) rfl
theorem qIM_yX3_playOut : (Jvm.Cond.instanceMethod yX3_playOut) ∈ gw := gw_t (gw_t4 (List.mem_of_getElem? (l := tables_1_4) (i := 88) (by decide +kernel))) rfl
theorem qCO_yX3_playOut : (Jvm.Cond.code yX3_playOut prog_1_method_83_code (6 : Nat) (Option.some Jvm.ClassFile.FieldType.int)) ∈ gw := gw_t (gw_t4 (List.mem_of_getElem? (l := tables_1_4) (i := 89) (by decide +kernel))) rfl
theorem qML_RL_198 : (Jvm.Cond.methodLink "HedgesAndDitchesLaw" (198 : Nat) yX3_wins) ∈ gw := gw_t (gw_t4 (List.mem_of_getElem? (l := tables_1_4) (i := 90) (by decide +kernel))) rfl
theorem qIM_yX3_wins : (Jvm.Cond.instanceMethod yX3_wins) ∈ gw := gw_t (gw_t4 (List.mem_of_getElem? (l := tables_1_4) (i := 91) (by decide +kernel))) rfl
theorem qSE_yX3_wins : (Jvm.Cond.selects "HedgesAndDitches" yX3_wins yX3_wins) ∈ gw := gw_t (gw_t4 (List.mem_of_getElem? (l := tables_1_4) (i := 92) (by decide +kernel))) rfl
theorem qCO_yX3_wins : (Jvm.Cond.code yX3_wins prog_1_method_46_code (2 : Nat) (Option.some Jvm.ClassFile.FieldType.int)) ∈ gw := gw_t (gw_t4 (List.mem_of_getElem? (l := tables_1_4) (i := 93) (by decide +kernel))) rfl
theorem qML_RX3_328 : (Jvm.Cond.methodLink "HedgesAndDitches" (328 : Nat) yX3_winnings) ∈ gw := gw_t (gw_t4 (List.mem_of_getElem? (l := tables_1_4) (i := 94) (by decide +kernel))) rfl
theorem qIM_yX3_winnings : (Jvm.Cond.instanceMethod yX3_winnings) ∈ gw := gw_t (gw_t4 (List.mem_of_getElem? (l := tables_1_4) (i := 96) (by decide +kernel))) rfl
theorem qCO_yX3_winnings : (Jvm.Cond.code yX3_winnings prog_1_method_84_code (4 : Nat) (Option.some Jvm.ClassFile.FieldType.int)) ∈ gw := gw_t (gw_t4 (List.mem_of_getElem? (l := tables_1_4) (i := 97) (by decide +kernel))) rfl
theorem qML_RL_202 : (Jvm.Cond.methodLink "HedgesAndDitchesLaw" (202 : Nat) yX3_champion) ∈ gw := gw_t (gw_t4 (List.mem_of_getElem? (l := tables_1_4) (i := 98) (by decide +kernel))) rfl
theorem qIM_yX3_champion : (Jvm.Cond.instanceMethod yX3_champion) ∈ gw := gw_t (gw_t4 (List.mem_of_getElem? (l := tables_1_4) (i := 99) (by decide +kernel))) rfl
theorem qSE_yX3_champion : (Jvm.Cond.selects "HedgesAndDitches" yX3_champion yX3_champion) ∈ gw := gw_t (gw_t4 (List.mem_of_getElem? (l := tables_1_4) (i := 100) (by decide +kernel))) rfl
theorem qCO_yX3_champion : (Jvm.Cond.code yX3_champion prog_1_method_47_code (5 : Nat) (Option.some Jvm.ClassFile.FieldType.int)) ∈ gw := gw_t (gw_t4 (List.mem_of_getElem? (l := tables_1_4) (i := 101) (by decide +kernel))) rfl
theorem qML_RL_206 : (Jvm.Cond.methodLink "HedgesAndDitchesLaw" (206 : Nat) yX3_likenesses) ∈ gw := gw_t (gw_t4 (List.mem_of_getElem? (l := tables_1_4) (i := 102) (by decide +kernel))) rfl
theorem qIM_yX3_likenesses : (Jvm.Cond.instanceMethod yX3_likenesses) ∈ gw := gw_t (gw_t4 (List.mem_of_getElem? (l := tables_1_4) (i := 103) (by decide +kernel))) rfl
theorem qSE_yX3_likenesses : (Jvm.Cond.selects "HedgesAndDitches" yX3_likenesses yX3_likenesses) ∈ gw := gw_t (gw_t4 (List.mem_of_getElem? (l := tables_1_4) (i := 104) (by decide +kernel))) rfl
theorem qCO_yX3_likenesses : (Jvm.Cond.code yX3_likenesses prog_1_method_48_code (3 : Nat) (Option.some Jvm.ClassFile.FieldType.int)) ∈ gw := gw_t (gw_t4 (List.mem_of_getElem? (l := tables_1_4) (i := 105) (by decide +kernel))) rfl
theorem qML_RX3_331 : (Jvm.Cond.methodLink "HedgesAndDitches" (331 : Nat) yX3_waysToTurn) ∈ gw := gw_t (gw_t4 (List.mem_of_getElem? (l := tables_1_4) (i := 106) (by decide +kernel))) rfl
theorem qIM_yX3_waysToTurn : (Jvm.Cond.instanceMethod yX3_waysToTurn) ∈ gw := gw_t (gw_t4 (List.mem_of_getElem? (l := tables_1_4) (i := 108) (by decide +kernel))) rfl
theorem qCO_yX3_waysToTurn : (Jvm.Cond.code yX3_waysToTurn prog_1_method_88_code (1 : Nat) (Option.some Jvm.ClassFile.FieldType.int)) ∈ gw := gw_t (gw_t4 (List.mem_of_getElem? (l := tables_1_4) (i := 109) (by decide +kernel))) rfl
theorem qML_RX3_334 : (Jvm.Cond.methodLink "HedgesAndDitches" (334 : Nat) yX0_isAlike) ∈ gw := gw_t (gw_t4 (List.mem_of_getElem? (l := tables_1_4) (i := 110) (by decide +kernel))) rfl
theorem qIM_yX0_isAlike : (Jvm.Cond.instanceMethod yX0_isAlike) ∈ gw := gw_t (gw_t4 (List.mem_of_getElem? (l := tables_1_4) (i := 111) (by decide +kernel))) rfl
theorem qSE_yX0_isAlike : (Jvm.Cond.selects "HedgesAndDitches$Game" yX0_isAlike yX0_isAlike) ∈ gw := gw_t (gw_t4 (List.mem_of_getElem? (l := tables_1_4) (i := 112) (by decide +kernel))) rfl
theorem qCO_yX0_isAlike : (Jvm.Cond.code yX0_isAlike prog_2_method_48_code (2 : Nat) (Option.some Jvm.ClassFile.FieldType.boolean)) ∈ gw := gw_t (gw_t4 (List.mem_of_getElem? (l := tables_1_4) (i := 113) (by decide +kernel))) rfl
theorem qML_RX0_176 : (Jvm.Cond.methodLink "HedgesAndDitches$Game" (176 : Nat) yX0_turnedEdges) ∈ gw := gw_t (gw_t4 (List.mem_of_getElem? (l := tables_1_4) (i := 114) (by decide +kernel))) rfl
theorem qIM_yX0_turnedEdges : (Jvm.Cond.instanceMethod yX0_turnedEdges) ∈ gw := gw_t (gw_t4 (List.mem_of_getElem? (l := tables_1_4) (i := 115) (by decide +kernel))) rfl
theorem qSE_yX0_turnedEdges : (Jvm.Cond.selects "HedgesAndDitches$Game" yX0_turnedEdges yX0_turnedEdges) ∈ gw := gw_t (gw_t4 (List.mem_of_getElem? (l := tables_1_4) (i := 116) (by decide +kernel))) rfl
theorem qCO_yX0_turnedEdges : (Jvm.Cond.code yX0_turnedEdges prog_2_method_50_code (7 : Nat) (Option.some Jvm.ClassFile.FieldType.long)) ∈ gw := gw_t (gw_t4 (List.mem_of_getElem? (l := tables_1_4) (i := 117) (by decide +kernel))) rfl
theorem qML_RX0_188 : (Jvm.Cond.methodLink "HedgesAndDitches$Game" (188 : Nat) yX0_edgeTurned) ∈ gw := gw_t (gw_t4 (List.mem_of_getElem? (l := tables_1_4) (i := 118) (by decide +kernel))) rfl
theorem qIM_yX0_edgeTurned : (Jvm.Cond.instanceMethod yX0_edgeTurned) ∈ gw := gw_t (gw_t4 (List.mem_of_getElem? (l := tables_1_4) (i := 119) (by decide +kernel))) rfl
theorem qSE_yX0_edgeTurned : (Jvm.Cond.selects "HedgesAndDitches$Game" yX0_edgeTurned yX0_edgeTurned) ∈ gw := gw_t (gw_t4 (List.mem_of_getElem? (l := tables_1_4) (i := 120) (by decide +kernel))) rfl
theorem qCO_yX0_edgeTurned : (Jvm.Cond.code yX0_edgeTurned prog_2_method_51_code (9 : Nat) (Option.some Jvm.ClassFile.FieldType.int)) ∈ gw := gw_t (gw_t4 (List.mem_of_getElem? (l := tables_1_4) (i := 121) (by decide +kernel))) rfl
theorem qML_RX0_184 : (Jvm.Cond.methodLink "HedgesAndDitches$Game" (184 : Nat) yX0_placeTurned) ∈ gw := gw_t (gw_t4 (List.mem_of_getElem? (l := tables_1_4) (i := 122) (by decide +kernel))) rfl
theorem qIM_yX0_placeTurned : (Jvm.Cond.instanceMethod yX0_placeTurned) ∈ gw := gw_t (gw_t4 (List.mem_of_getElem? (l := tables_1_4) (i := 123) (by decide +kernel))) rfl
theorem qSE_yX0_placeTurned : (Jvm.Cond.selects "HedgesAndDitches$Game" yX0_placeTurned yX0_placeTurned) ∈ gw := gw_t (gw_t4 (List.mem_of_getElem? (l := tables_1_4) (i := 124) (by decide +kernel))) rfl
theorem qCO_yX0_placeTurned : (Jvm.Cond.code yX0_placeTurned prog_2_method_52_code (8 : Nat) (Option.some Jvm.ClassFile.FieldType.int)) ∈ gw := gw_t (gw_t4 (List.mem_of_getElem? (l := tables_1_4) (i := 125) (by decide +kernel))) rfl
theorem qML_RX0_180 : (Jvm.Cond.methodLink "HedgesAndDitches$Game" (180 : Nat) yX0_turnedFields) ∈ gw := gw_t (gw_t4 (List.mem_of_getElem? (l := tables_1_4) (i := 126) (by decide +kernel))) rfl
theorem qIM_yX0_turnedFields : (Jvm.Cond.instanceMethod yX0_turnedFields) ∈ gw := gw_t (gw_t4 (List.mem_of_getElem? (l := tables_1_4) (i := 127) (by decide +kernel))) rfl
theorem qSE_yX0_turnedFields : (Jvm.Cond.selects "HedgesAndDitches$Game" yX0_turnedFields yX0_turnedFields) ∈ gw := gw_t (gw_t4 (List.mem_of_getElem? (l := tables_1_4) (i := 128) (by decide +kernel))) rfl
theorem qCO_yX0_turnedFields : (Jvm.Cond.code yX0_turnedFields prog_2_method_49_code (6 : Nat) (Option.some Jvm.ClassFile.FieldType.int)) ∈ gw := gw_t (gw_t4 (List.mem_of_getElem? (l := tables_1_4) (i := 129) (by decide +kernel))) rfl
theorem qML_RL_210 : (Jvm.Cond.methodLink "HedgesAndDitchesLaw" (210 : Nat) yX3_alike) ∈ gw := gw_t (gw_t4 (List.mem_of_getElem? (l := tables_1_4) (i := 130) (by decide +kernel))) rfl
theorem qIM_yX3_alike : (Jvm.Cond.instanceMethod yX3_alike) ∈ gw := gw_t (gw_t4 (List.mem_of_getElem? (l := tables_1_4) (i := 131) (by decide +kernel))) rfl
theorem qSE_yX3_alike : (Jvm.Cond.selects "HedgesAndDitches" yX3_alike yX3_alike) ∈ gw := gw_t (gw_t4 (List.mem_of_getElem? (l := tables_1_4) (i := 132) (by decide +kernel))) rfl
theorem qCO_yX3_alike : (Jvm.Cond.code yX3_alike prog_1_method_49_code (2 : Nat) (Option.some Jvm.ClassFile.FieldType.int)) ∈ gw := gw_t (gw_t4 (List.mem_of_getElem? (l := tables_1_4) (i := 133) (by decide +kernel))) rfl
theorem qML_RL_214 : (Jvm.Cond.methodLink "HedgesAndDitchesLaw" (214 : Nat) yX3_judge) ∈ gw := gw_t (gw_t4 (List.mem_of_getElem? (l := tables_1_4) (i := 134) (by decide +kernel))) rfl
theorem qIM_yX3_judge : (Jvm.Cond.instanceMethod yX3_judge) ∈ gw := gw_t (gw_t4 (List.mem_of_getElem? (l := tables_1_4) (i := 135) (by decide +kernel))) rfl
theorem qSE_yX3_judge : (Jvm.Cond.selects "HedgesAndDitches" yX3_judge yX3_judge) ∈ gw := gw_t (gw_t4 (List.mem_of_getElem? (l := tables_1_4) (i := 136) (by decide +kernel))) rfl
theorem qCO_yX3_judge : (Jvm.Cond.code yX3_judge prog_1_method_50_code (4 : Nat) (Option.some Jvm.ClassFile.FieldType.int)) ∈ gw := gw_t (gw_t4 (List.mem_of_getElem? (l := tables_1_4) (i := 137) (by decide +kernel))) rfl
theorem qML_RX3_337 : (Jvm.Cond.methodLink "HedgesAndDitches" (337 : Nat) yX3_toldTrouble) ∈ gw := gw_t (gw_t4 (List.mem_of_getElem? (l := tables_1_4) (i := 138) (by decide +kernel))) rfl
theorem qSM_yX3_toldTrouble : (Jvm.Cond.static yX3_toldTrouble) ∈ gw := gw_t (gw_t4 (List.mem_of_getElem? (l := tables_1_4) (i := 139) (by decide +kernel))) rfl
theorem qCO_yX3_toldTrouble : (Jvm.Cond.code yX3_toldTrouble prog_1_method_72_code (3 : Nat) (Option.some Jvm.ClassFile.FieldType.int)) ∈ gw := gw_t (gw_t4 (List.mem_of_getElem? (l := tables_1_4) (i := 140) (by decide +kernel))) rfl
theorem qML_RX3_341 : (Jvm.Cond.methodLink "HedgesAndDitches" (341 : Nat) yX3_toldWrong) ∈ gw := gw_t (gw_t4 (List.mem_of_getElem? (l := tables_1_4) (i := 141) (by decide +kernel))) rfl
theorem qIM_yX3_toldWrong : (Jvm.Cond.instanceMethod yX3_toldWrong) ∈ gw := gw_t (gw_t4 (List.mem_of_getElem? (l := tables_1_4) (i := 143) (by decide +kernel))) rfl
theorem qCO_yX3_toldWrong : (Jvm.Cond.code yX3_toldWrong prog_1_method_73_code (7 : Nat) (Option.some Jvm.ClassFile.FieldType.int)) ∈ gw := gw_t (gw_t4 (List.mem_of_getElem? (l := tables_1_4) (i := 144) (by decide +kernel))) rfl
theorem qML_RL_218 : (Jvm.Cond.methodLink "HedgesAndDitchesLaw" (218 : Nat) yX3_behind) ∈ gw := gw_t (gw_t4 (List.mem_of_getElem? (l := tables_1_4) (i := 145) (by decide +kernel))) rfl
theorem qIM_yX3_behind : (Jvm.Cond.instanceMethod yX3_behind) ∈ gw := gw_t (gw_t4 (List.mem_of_getElem? (l := tables_1_4) (i := 146) (by decide +kernel))) rfl
theorem qSE_yX3_behind : (Jvm.Cond.selects "HedgesAndDitches" yX3_behind yX3_behind) ∈ gw := gw_t (gw_t4 (List.mem_of_getElem? (l := tables_1_4) (i := 147) (by decide +kernel))) rfl
theorem qCO_yX3_behind : (Jvm.Cond.code yX3_behind prog_1_method_51_code (4 : Nat) (Option.some Jvm.ClassFile.FieldType.int)) ∈ gw := gw_t (gw_t4 (List.mem_of_getElem? (l := tables_1_4) (i := 148) (by decide +kernel))) rfl
theorem qML_RL_222 : (Jvm.Cond.methodLink "HedgesAndDitchesLaw" (222 : Nat) yX3_done) ∈ gw := gw_t (gw_t4 (List.mem_of_getElem? (l := tables_1_4) (i := 149) (by decide +kernel))) rfl
theorem qIM_yX3_done : (Jvm.Cond.instanceMethod yX3_done) ∈ gw := gw_t (gw_t4 (List.mem_of_getElem? (l := tables_1_4) (i := 150) (by decide +kernel))) rfl
theorem qSE_yX3_done : (Jvm.Cond.selects "HedgesAndDitches" yX3_done yX3_done) ∈ gw := gw_t (gw_t4 (List.mem_of_getElem? (l := tables_1_4) (i := 151) (by decide +kernel))) rfl
theorem qCO_yX3_done : (Jvm.Cond.code yX3_done prog_1_method_52_code (4 : Nat) (Option.some Jvm.ClassFile.FieldType.int)) ∈ gw := gw_t (gw_t4 (List.mem_of_getElem? (l := tables_1_4) (i := 152) (by decide +kernel))) rfl
theorem qML_RL_226 : (Jvm.Cond.methodLink "HedgesAndDitchesLaw" (226 : Nat) yX3_move) ∈ gw := gw_t (gw_t4 (List.mem_of_getElem? (l := tables_1_4) (i := 153) (by decide +kernel))) rfl
theorem qIM_yX3_move : (Jvm.Cond.instanceMethod yX3_move) ∈ gw := gw_t (gw_t4 (List.mem_of_getElem? (l := tables_1_4) (i := 154) (by decide +kernel))) rfl
theorem qSE_yX3_move : (Jvm.Cond.selects "HedgesAndDitches" yX3_move yX3_move) ∈ gw := gw_t (gw_t4 (List.mem_of_getElem? (l := tables_1_4) (i := 155) (by decide +kernel))) rfl
theorem qCO_yX3_move : (Jvm.Cond.code yX3_move prog_1_method_53_code (4 : Nat) (Option.some Jvm.ClassFile.FieldType.int)) ∈ gw := gw_t (gw_t4 (List.mem_of_getElem? (l := tables_1_4) (i := 156) (by decide +kernel))) rfl
theorem qML_RL_230 : (Jvm.Cond.methodLink "HedgesAndDitchesLaw" (230 : Nat) yX3_goes) ∈ gw := gw_t (gw_t4 (List.mem_of_getElem? (l := tables_1_4) (i := 157) (by decide +kernel))) rfl
theorem qIM_yX3_goes : (Jvm.Cond.instanceMethod yX3_goes) ∈ gw := gw_t (gw_t4 (List.mem_of_getElem? (l := tables_1_4) (i := 158) (by decide +kernel))) rfl
theorem qSE_yX3_goes : (Jvm.Cond.selects "HedgesAndDitches" yX3_goes yX3_goes) ∈ gw := gw_t (gw_t4 (List.mem_of_getElem? (l := tables_1_4) (i := 159) (by decide +kernel))) rfl
theorem qCO_yX3_goes : (Jvm.Cond.code yX3_goes prog_1_method_54_code (5 : Nat) (Option.some Jvm.ClassFile.FieldType.int)) ∈ gw := gw_t (gw_t4 (List.mem_of_getElem? (l := tables_1_4) (i := 160) (by decide +kernel))) rfl
theorem qML_RL_234 : (Jvm.Cond.methodLink "HedgesAndDitchesLaw" (234 : Nat) yX3_games) ∈ gw := gw_t (gw_t4 (List.mem_of_getElem? (l := tables_1_4) (i := 161) (by decide +kernel))) rfl
theorem qIM_yX3_games : (Jvm.Cond.instanceMethod yX3_games) ∈ gw := gw_t (gw_t4 (List.mem_of_getElem? (l := tables_1_4) (i := 162) (by decide +kernel))) rfl
theorem qSE_yX3_games : (Jvm.Cond.selects "HedgesAndDitches" yX3_games yX3_games) ∈ gw := gw_t (gw_t4 (List.mem_of_getElem? (l := tables_1_4) (i := 163) (by decide +kernel))) rfl
theorem qCO_yX3_games : (Jvm.Cond.code yX3_games prog_1_method_55_code (4 : Nat) (Option.some Jvm.ClassFile.FieldType.int)) ∈ gw := gw_t (gw_t4 (List.mem_of_getElem? (l := tables_1_4) (i := 164) (by decide +kernel))) rfl
theorem qML_RX3_348 : (Jvm.Cond.methodLink "HedgesAndDitches" (348 : Nat) yX0_clear) ∈ gw := gw_t (gw_t4 (List.mem_of_getElem? (l := tables_1_4) (i := 165) (by decide +kernel))) rfl
theorem qML_RX3_351 : (Jvm.Cond.methodLink "HedgesAndDitches" (351 : Nat) yX3_endByDraws) ∈ gw := gw_t (gw_t4 (List.mem_of_getElem? (l := tables_1_4) (i := 166) (by decide +kernel))) rfl
theorem qIM_yX3_endByDraws : (Jvm.Cond.instanceMethod yX3_endByDraws) ∈ gw := gw_t (gw_t4 (List.mem_of_getElem? (l := tables_1_4) (i := 168) (by decide +kernel))) rfl
theorem qCO_yX3_endByDraws : (Jvm.Cond.code yX3_endByDraws prog_1_method_85_code (3 : Nat) (Option.none : Option Jvm.ClassFile.FieldType)) ∈ gw := gw_t (gw_t4 (List.mem_of_getElem? (l := tables_1_4) (i := 169) (by decide +kernel))) rfl
theorem qML_RL_238 : (Jvm.Cond.methodLink "HedgesAndDitchesLaw" (238 : Nat) yX3_seed) ∈ gw := gw_t (gw_t4 (List.mem_of_getElem? (l := tables_1_4) (i := 170) (by decide +kernel))) rfl
theorem qIM_yX3_seed : (Jvm.Cond.instanceMethod yX3_seed) ∈ gw := gw_t (gw_t4 (List.mem_of_getElem? (l := tables_1_4) (i := 171) (by decide +kernel))) rfl
theorem qSE_yX3_seed : (Jvm.Cond.selects "HedgesAndDitches" yX3_seed yX3_seed) ∈ gw := gw_t (gw_t4 (List.mem_of_getElem? (l := tables_1_4) (i := 172) (by decide +kernel))) rfl
theorem qCO_yX3_seed : (Jvm.Cond.code yX3_seed prog_1_method_56_code (3 : Nat) (Option.some Jvm.ClassFile.FieldType.int)) ∈ gw := gw_t (gw_t4 (List.mem_of_getElem? (l := tables_1_4) (i := 173) (by decide +kernel))) rfl
theorem qML_RL_242 : (Jvm.Cond.methodLink "HedgesAndDitchesLaw" (242 : Nat) yX3_image) ∈ gw := gw_t (gw_t4 (List.mem_of_getElem? (l := tables_1_4) (i := 174) (by decide +kernel))) rfl
theorem qIM_yX3_image : (Jvm.Cond.instanceMethod yX3_image) ∈ gw := gw_t (gw_t4 (List.mem_of_getElem? (l := tables_1_4) (i := 175) (by decide +kernel))) rfl
theorem qSE_yX3_image : (Jvm.Cond.selects "HedgesAndDitches" yX3_image yX3_image) ∈ gw := gw_t (gw_t4 (List.mem_of_getElem? (l := tables_1_4) (i := 176) (by decide +kernel))) rfl
theorem qCO_yX3_image : (Jvm.Cond.code yX3_image prog_1_method_57_code (1 : Nat) (Option.some Jvm.ClassFile.FieldType.int)) ∈ gw := gw_t (gw_t4 (List.mem_of_getElem? (l := tables_1_4) (i := 177) (by decide +kernel))) rfl
theorem qML_RL_246 : (Jvm.Cond.methodLink "HedgesAndDitchesLaw" (246 : Nat) yX3_back) ∈ gw := gw_t (gw_t4 (List.mem_of_getElem? (l := tables_1_4) (i := 178) (by decide +kernel))) rfl
theorem qIM_yX3_back : (Jvm.Cond.instanceMethod yX3_back) ∈ gw := gw_t (gw_t4 (List.mem_of_getElem? (l := tables_1_4) (i := 179) (by decide +kernel))) rfl
theorem qSE_yX3_back : (Jvm.Cond.selects "HedgesAndDitches" yX3_back yX3_back) ∈ gw := gw_t (gw_t4 (List.mem_of_getElem? (l := tables_1_4) (i := 180) (by decide +kernel))) rfl
theorem qCO_yX3_back : (Jvm.Cond.code yX3_back prog_1_method_58_code (2 : Nat) (Option.some Jvm.ClassFile.FieldType.int)) ∈ gw := gw_t (gw_t4 (List.mem_of_getElem? (l := tables_1_4) (i := 181) (by decide +kernel))) rfl
theorem qML_RX3_357 : (Jvm.Cond.methodLink "HedgesAndDitches" (357 : Nat) yX3_dropLostPlayer) ∈ gw := gw_t (gw_t4 (List.mem_of_getElem? (l := tables_1_4) (i := 182) (by decide +kernel))) rfl
theorem qIM_yX3_dropLostPlayer : (Jvm.Cond.instanceMethod yX3_dropLostPlayer) ∈ gw := gw_t (gw_t4 (List.mem_of_getElem? (l := tables_1_4) (i := 184) (by decide +kernel))) rfl
theorem qCO_yX3_dropLostPlayer : (Jvm.Cond.code yX3_dropLostPlayer prog_1_method_74_code (2 : Nat) (Option.none : Option Jvm.ClassFile.FieldType)) ∈ gw := gw_t (gw_t4 (List.mem_of_getElem? (l := tables_1_4) (i := 185) (by decide +kernel))) rfl
theorem qML_RL_250 : (Jvm.Cond.methodLink "HedgesAndDitchesLaw" (250 : Nat) yX3_status) ∈ gw := gw_t (gw_t4 (List.mem_of_getElem? (l := tables_1_4) (i := 186) (by decide +kernel))) rfl
theorem qIM_yX3_status : (Jvm.Cond.instanceMethod yX3_status) ∈ gw := gw_t (gw_t4 (List.mem_of_getElem? (l := tables_1_4) (i := 187) (by decide +kernel))) rfl
theorem qSE_yX3_status : (Jvm.Cond.selects "HedgesAndDitches" yX3_status yX3_status) ∈ gw := gw_t (gw_t4 (List.mem_of_getElem? (l := tables_1_4) (i := 188) (by decide +kernel))) rfl
theorem qCO_yX3_status : (Jvm.Cond.code yX3_status prog_1_method_59_code (2 : Nat) (Option.some Jvm.ClassFile.FieldType.int)) ∈ gw := gw_t (gw_t4 (List.mem_of_getElem? (l := tables_1_4) (i := 189) (by decide +kernel))) rfl
theorem qML_RX3_367 : (Jvm.Cond.methodLink "HedgesAndDitches" (367 : Nat) yX3_fullShelves) ∈ gw := gw_t (gw_t4 (List.mem_of_getElem? (l := tables_1_4) (i := 190) (by decide +kernel))) rfl
theorem qIM_yX3_fullShelves : (Jvm.Cond.instanceMethod yX3_fullShelves) ∈ gw := gw_t (gw_t4 (List.mem_of_getElem? (l := tables_1_4) (i := 192) (by decide +kernel))) rfl
theorem qCO_yX3_fullShelves : (Jvm.Cond.code yX3_fullShelves prog_1_method_75_code (3 : Nat) (Option.some Jvm.ClassFile.FieldType.int)) ∈ gw := gw_t (gw_t4 (List.mem_of_getElem? (l := tables_1_4) (i := 193) (by decide +kernel))) rfl
theorem qML_RX3_374 : (Jvm.Cond.methodLink "HedgesAndDitches" (374 : Nat) yX3_holds) ∈ gw := gw_t (gw_t4 (List.mem_of_getElem? (l := tables_1_4) (i := 194) (by decide +kernel))) rfl
theorem qML_RX3_370 : (Jvm.Cond.methodLink "HedgesAndDitches" (370 : Nat) yX3_refusalCount) ∈ gw := gw_t (gw_t4 (List.mem_of_getElem? (l := tables_1_4) (i := 195) (by decide +kernel))) rfl
theorem qIM_yX3_refusalCount : (Jvm.Cond.instanceMethod yX3_refusalCount) ∈ gw := gw_t (gw_t4 (List.mem_of_getElem? (l := tables_1_4) (i := 197) (by decide +kernel))) rfl
theorem qCO_yX3_refusalCount : (Jvm.Cond.code yX3_refusalCount prog_1_method_62_code (2 : Nat) (Option.some Jvm.ClassFile.FieldType.int)) ∈ gw := gw_t (gw_t4 (List.mem_of_getElem? (l := tables_1_4) (i := 198) (by decide +kernel))) rfl
theorem qKL_RL_10 : (Jvm.Cond.classLink "HedgesAndDitchesLaw" (10 : Nat) "HedgesAndDitchesModel") ∈ gw := gw_t (gw_t4 (List.mem_of_getElem? (l := tables_1_4) (i := 199) (by decide +kernel))) rfl
theorem qIS_RX4 : (Jvm.Cond.instantiable "HedgesAndDitchesModel" (25 : Nat)) ∈ gw := gw_t (gw_t4 (List.mem_of_getElem? (l := tables_1_4) (i := 200) (by decide +kernel))) rfl
theorem qML_RL_12 : (Jvm.Cond.methodLink "HedgesAndDitchesLaw" (12 : Nat) yX4_init) ∈ gw := gw_t (gw_t4 (List.mem_of_getElem? (l := tables_1_4) (i := 201) (by decide +kernel))) rfl
theorem qIM_yX4_init : (Jvm.Cond.instanceMethod yX4_init) ∈ gw := gw_t (gw_t4 (List.mem_of_getElem? (l := tables_1_4) (i := 202) (by decide +kernel))) rfl
theorem qCO_yX4_init : (Jvm.Cond.code yX4_init prog_6_method_1_code (2 : Nat) (Option.none : Option Jvm.ClassFile.FieldType)) ∈ gw := gw_t (gw_t4 (List.mem_of_getElem? (l := tables_1_4) (i := 203) (by decide +kernel))) rfl
theorem qML_RX4_1 : (Jvm.Cond.methodLink "HedgesAndDitchesModel" (1 : Nat) objectInit) ∈ gw := gw_t (gw_t4 (List.mem_of_getElem? (l := tables_1_4) (i := 204) (by decide +kernel))) rfl
theorem qML_RX4_52 : (Jvm.Cond.methodLink "HedgesAndDitchesModel" (52 : Nat) yX4_sized) ∈ gw := gw_t (gw_t4 (List.mem_of_getElem? (l := tables_1_4) (i := 205) (by decide +kernel))) rfl
theorem qIM_yX4_sized : (Jvm.Cond.instanceMethod yX4_sized) ∈ gw := gw_t (gw_t4 (List.mem_of_getElem? (l := tables_1_4) (i := 207) (by decide +kernel))) rfl
theorem qCO_yX4_sized : (Jvm.Cond.code yX4_sized prog_6_method_19_code (4 : Nat) (Option.some Jvm.ClassFile.FieldType.int)) ∈ gw := gw_t (gw_t4 (List.mem_of_getElem? (l := tables_1_4) (i := 208) (by decide +kernel))) rfl
theorem qML_RX4_107 : (Jvm.Cond.methodLink "HedgesAndDitchesModel" (107 : Nat) yX4_edges) ∈ gw := gw_t (gw_t4 (List.mem_of_getElem? (l := tables_1_4) (i := 209) (by decide +kernel))) rfl
theorem qIM_yX4_edges : (Jvm.Cond.instanceMethod yX4_edges) ∈ gw := gw_t (gw_t4 (List.mem_of_getElem? (l := tables_1_4) (i := 211) (by decide +kernel))) rfl
theorem qCO_yX4_edges : (Jvm.Cond.code yX4_edges prog_6_method_21_code (1 : Nat) (Option.some Jvm.ClassFile.FieldType.int)) ∈ gw := gw_t (gw_t4 (List.mem_of_getElem? (l := tables_1_4) (i := 212) (by decide +kernel))) rfl
theorem qML_RX4_110 : (Jvm.Cond.methodLink "HedgesAndDitchesModel" (110 : Nat) yX4_level) ∈ gw := gw_t (gw_t4 (List.mem_of_getElem? (l := tables_1_4) (i := 213) (by decide +kernel))) rfl
theorem qIM_yX4_level : (Jvm.Cond.instanceMethod yX4_level) ∈ gw := gw_t (gw_t4 (List.mem_of_getElem? (l := tables_1_4) (i := 215) (by decide +kernel))) rfl
theorem qCO_yX4_level : (Jvm.Cond.code yX4_level prog_6_method_20_code (1 : Nat) (Option.some Jvm.ClassFile.FieldType.int)) ∈ gw := gw_t (gw_t4 (List.mem_of_getElem? (l := tables_1_4) (i := 216) (by decide +kernel))) rfl
theorem qFL_RX4_67 : (Jvm.Cond.fieldLink "HedgesAndDitchesModel" (67 : Nat) "HedgesAndDitchesModel" "w" "I") ∈ gw := gw_t (gw_t4 (List.mem_of_getElem? (l := tables_1_4) (i := 217) (by decide +kernel))) rfl
theorem qFL_RX4_70 : (Jvm.Cond.fieldLink "HedgesAndDitchesModel" (70 : Nat) "HedgesAndDitchesModel" "h" "I") ∈ gw := gw_t (gw_t4 (List.mem_of_getElem? (l := tables_1_4) (i := 218) (by decide +kernel))) rfl
theorem qFL_RX4_7 : (Jvm.Cond.fieldLink "HedgesAndDitchesModel" (7 : Nat) "HedgesAndDitchesModel" "hedge" "[Z") ∈ gw := gw_t (gw_t4 (List.mem_of_getElem? (l := tables_1_4) (i := 219) (by decide +kernel))) rfl
theorem qFL_RX4_13 : (Jvm.Cond.fieldLink "HedgesAndDitchesModel" (13 : Nat) "HedgesAndDitchesModel" "dug" "[Z") ∈ gw := gw_t (gw_t4 (List.mem_of_getElem? (l := tables_1_4) (i := 220) (by decide +kernel))) rfl
theorem qFL_RX4_16 : (Jvm.Cond.fieldLink "HedgesAndDitchesModel" (16 : Nat) "HedgesAndDitchesModel" "owner" "[I") ∈ gw := gw_t (gw_t4 (List.mem_of_getElem? (l := tables_1_4) (i := 221) (by decide +kernel))) rfl
theorem qFL_RX4_101 : (Jvm.Cond.fieldLink "HedgesAndDitchesModel" (101 : Nat) "HedgesAndDitchesModel" "turn" "I") ∈ gw := gw_t (gw_t4 (List.mem_of_getElem? (l := tables_1_4) (i := 222) (by decide +kernel))) rfl
theorem qFL_RX4_104 : (Jvm.Cond.fieldLink "HedgesAndDitchesModel" (104 : Nat) "HedgesAndDitchesModel" "made" "I") ∈ gw := gw_t (gw_t4 (List.mem_of_getElem? (l := tables_1_4) (i := 223) (by decide +kernel))) rfl
theorem qFL_RX4_60 : (Jvm.Cond.fieldLink "HedgesAndDitchesModel" (60 : Nat) "HedgesAndDitchesModel" "players" "I") ∈ gw := gw_t (gw_t4 (List.mem_of_getElem? (l := tables_1_4) (i := 224) (by decide +kernel))) rfl
theorem qFL_RX4_20 : (Jvm.Cond.fieldLink "HedgesAndDitchesModel" (20 : Nat) "HedgesAndDitchesModel" "kind" "[I") ∈ gw := gw_t (gw_t4 (List.mem_of_getElem? (l := tables_1_4) (i := 225) (by decide +kernel))) rfl
theorem qFL_RX4_23 : (Jvm.Cond.fieldLink "HedgesAndDitchesModel" (23 : Nat) "HedgesAndDitchesModel" "own" "[I") ∈ gw := gw_t (gw_t4 (List.mem_of_getElem? (l := tables_1_4) (i := 226) (by decide +kernel))) rfl
theorem qFL_RX4_48 : (Jvm.Cond.fieldLink "HedgesAndDitchesModel" (48 : Nat) "HedgesAndDitchesModel" "seed" "I") ∈ gw := gw_t (gw_t4 (List.mem_of_getElem? (l := tables_1_4) (i := 227) (by decide +kernel))) rfl
theorem qFL_RX4_128 : (Jvm.Cond.fieldLink "HedgesAndDitchesModel" (128 : Nat) "HedgesAndDitchesModel" "taped" "I") ∈ gw := gw_t (gw_t4 (List.mem_of_getElem? (l := tables_1_4) (i := 228) (by decide +kernel))) rfl
theorem qFL_RX4_26 : (Jvm.Cond.fieldLink "HedgesAndDitchesModel" (26 : Nat) "HedgesAndDitchesModel" "tape" "[I") ∈ gw := gw_t (gw_t4 (List.mem_of_getElem? (l := tables_1_4) (i := 229) (by decide +kernel))) rfl
theorem qFL_RX4_134 : (Jvm.Cond.fieldLink "HedgesAndDitchesModel" (134 : Nat) "HedgesAndDitchesModel" "from" "I") ∈ gw := gw_t (gw_t4 (List.mem_of_getElem? (l := tables_1_4) (i := 230) (by decide +kernel))) rfl
theorem qFL_RX4_131 : (Jvm.Cond.fieldLink "HedgesAndDitchesModel" (131 : Nat) "HedgesAndDitchesModel" "to" "I") ∈ gw := gw_t (gw_t4 (List.mem_of_getElem? (l := tables_1_4) (i := 231) (by decide +kernel))) rfl
theorem qFL_RX4_137 : (Jvm.Cond.fieldLink "HedgesAndDitchesModel" (137 : Nat) "HedgesAndDitchesModel" "token" "I") ∈ gw := gw_t (gw_t4 (List.mem_of_getElem? (l := tables_1_4) (i := 232) (by decide +kernel))) rfl
theorem qFL_RX4_146 : (Jvm.Cond.fieldLink "HedgesAndDitchesModel" (146 : Nat) "HedgesAndDitchesModel" "value" "I") ∈ gw := gw_t (gw_t4 (List.mem_of_getElem? (l := tables_1_4) (i := 233) (by decide +kernel))) rfl
theorem qFL_RX4_29 : (Jvm.Cond.fieldLink "HedgesAndDitchesModel" (29 : Nat) "HedgesAndDitchesModel" "holding" "[I") ∈ gw := gw_t (gw_t4 (List.mem_of_getElem? (l := tables_1_4) (i := 234) (by decide +kernel))) rfl
theorem qFL_RX4_32 : (Jvm.Cond.fieldLink "HedgesAndDitchesModel" (32 : Nat) "HedgesAndDitchesModel" "rowLength" "[I") ∈ gw := gw_t (gw_t4 (List.mem_of_getElem? (l := tables_1_4) (i := 235) (by decide +kernel))) rfl
theorem qFL_RX4_35 : (Jvm.Cond.fieldLink "HedgesAndDitchesModel" (35 : Nat) "HedgesAndDitchesModel" "rowOf" "[J") ∈ gw := gw_t (gw_t4 (List.mem_of_getElem? (l := tables_1_4) (i := 236) (by decide +kernel))) rfl
theorem qFL_RX4_39 : (Jvm.Cond.fieldLink "HedgesAndDitchesModel" (39 : Nat) "HedgesAndDitchesModel" "refusals" "[I") ∈ gw := gw_t (gw_t4 (List.mem_of_getElem? (l := tables_1_4) (i := 237) (by decide +kernel))) rfl
theorem qFL_RX4_306 : (Jvm.Cond.fieldLink "HedgesAndDitchesModel" (306 : Nat) "HedgesAndDitchesModel" "imaged" "Z") ∈ gw := gw_t (gw_t4 (List.mem_of_getElem? (l := tables_1_4) (i := 238) (by decide +kernel))) rfl
theorem qFL_RX4_42 : (Jvm.Cond.fieldLink "HedgesAndDitchesModel" (42 : Nat) "HedgesAndDitchesModel" "old" "[I") ∈ gw := gw_t (gw_t4 (List.mem_of_getElem? (l := tables_1_4) (i := 239) (by decide +kernel))) rfl
theorem qFL_RX4_45 : (Jvm.Cond.fieldLink "HedgesAndDitchesModel" (45 : Nat) "HedgesAndDitchesModel" "ahead" "[I") ∈ gw := gw_t (gw_t5 (List.mem_of_getElem? (l := tables_1_5) (i := 0) (by decide +kernel))) rfl
theorem qFL_RX4_242 : (Jvm.Cond.fieldLink "HedgesAndDitchesModel" (242 : Nat) "HedgesAndDitchesModel" "bestMove" "I") ∈ gw := gw_t (gw_t5 (List.mem_of_getElem? (l := tables_1_5) (i := 1) (by decide +kernel))) rfl
theorem qsuperclass_5_52 : (Jvm.Cond.superclass "HedgesAndDitchesModel" "java/lang/Object") ∈ lw_tbl := List.mem_append_right _ (gw_t5 (List.mem_of_getElem? (l := tables_1_5) (i := 52) (by decide +kernel)))
theorem qarrayClass_5_53 : (Jvm.Cond.arrayClass Jvm.ClassFile.FieldType.boolean) ∈ gw := gw_t (gw_t5 (List.mem_of_getElem? (l := tables_1_5) (i := 53) (by decide +kernel))) rfl
theorem qML_RL_17 : (Jvm.Cond.methodLink "HedgesAndDitchesLaw" (17 : Nat) yX4_row) ∈ gw := gw_t (gw_t5 (List.mem_of_getElem? (l := tables_1_5) (i := 54) (by decide +kernel))) rfl
theorem qIM_yX4_row : (Jvm.Cond.instanceMethod yX4_row) ∈ gw := gw_t (gw_t5 (List.mem_of_getElem? (l := tables_1_5) (i := 55) (by decide +kernel))) rfl
theorem qSE_yX4_row : (Jvm.Cond.selects "HedgesAndDitchesModel" yX4_row yX4_row) ∈ gw := gw_t (gw_t5 (List.mem_of_getElem? (l := tables_1_5) (i := 56) (by decide +kernel))) rfl
theorem qCO_yX4_row : (Jvm.Cond.code yX4_row prog_6_method_9_code (5 : Nat) (Option.some Jvm.ClassFile.FieldType.int)) ∈ gw := gw_t (gw_t5 (List.mem_of_getElem? (l := tables_1_5) (i := 57) (by decide +kernel))) rfl
theorem qML_RX4_73 : (Jvm.Cond.methodLink "HedgesAndDitchesModel" (73 : Nat) yX4_isShelf) ∈ gw := gw_t (gw_t5 (List.mem_of_getElem? (l := tables_1_5) (i := 58) (by decide +kernel))) rfl
theorem qSM_yX4_isShelf : (Jvm.Cond.static yX4_isShelf) ∈ gw := gw_t (gw_t5 (List.mem_of_getElem? (l := tables_1_5) (i := 59) (by decide +kernel))) rfl
theorem qCO_yX4_isShelf : (Jvm.Cond.code yX4_isShelf prog_6_method_7_code (1 : Nat) (Option.some Jvm.ClassFile.FieldType.boolean)) ∈ gw := gw_t (gw_t5 (List.mem_of_getElem? (l := tables_1_5) (i := 60) (by decide +kernel))) rfl
theorem qML_RX4_63 : (Jvm.Cond.methodLink "HedgesAndDitchesModel" (63 : Nat) yX4_within) ∈ gw := gw_t (gw_t5 (List.mem_of_getElem? (l := tables_1_5) (i := 61) (by decide +kernel))) rfl
theorem qSM_yX4_within : (Jvm.Cond.static yX4_within) ∈ gw := gw_t (gw_t5 (List.mem_of_getElem? (l := tables_1_5) (i := 62) (by decide +kernel))) rfl
theorem qCO_yX4_within : (Jvm.Cond.code yX4_within prog_6_method_4_code (3 : Nat) (Option.some Jvm.ClassFile.FieldType.boolean)) ∈ gw := gw_t (gw_t5 (List.mem_of_getElem? (l := tables_1_5) (i := 63) (by decide +kernel))) rfl
theorem qML_RX4_56 : (Jvm.Cond.methodLink "HedgesAndDitchesModel" (56 : Nat) yX4_no) ∈ gw := gw_t (gw_t5 (List.mem_of_getElem? (l := tables_1_5) (i := 64) (by decide +kernel))) rfl
theorem qIM_yX4_no : (Jvm.Cond.instanceMethod yX4_no) ∈ gw := gw_t (gw_t5 (List.mem_of_getElem? (l := tables_1_5) (i := 66) (by decide +kernel))) rfl
theorem qCO_yX4_no : (Jvm.Cond.code yX4_no prog_6_method_2_code (2 : Nat) (Option.some Jvm.ClassFile.FieldType.int)) ∈ gw := gw_t (gw_t5 (List.mem_of_getElem? (l := tables_1_5) (i := 67) (by decide +kernel))) rfl
theorem qML_RL_24 : (Jvm.Cond.methodLink "HedgesAndDitchesLaw" (24 : Nat) yX4_set) ∈ gw := gw_t (gw_t5 (List.mem_of_getElem? (l := tables_1_5) (i := 68) (by decide +kernel))) rfl
theorem qIM_yX4_set : (Jvm.Cond.instanceMethod yX4_set) ∈ gw := gw_t (gw_t5 (List.mem_of_getElem? (l := tables_1_5) (i := 69) (by decide +kernel))) rfl
theorem qSE_yX4_set : (Jvm.Cond.selects "HedgesAndDitchesModel" yX4_set yX4_set) ∈ gw := gw_t (gw_t5 (List.mem_of_getElem? (l := tables_1_5) (i := 70) (by decide +kernel))) rfl
theorem qCO_yX4_set : (Jvm.Cond.code yX4_set prog_6_method_12_code (5 : Nat) (Option.some Jvm.ClassFile.FieldType.int)) ∈ gw := gw_t (gw_t5 (List.mem_of_getElem? (l := tables_1_5) (i := 71) (by decide +kernel))) rfl
theorem qML_RX4_77 : (Jvm.Cond.methodLink "HedgesAndDitchesModel" (77 : Nat) yX4_isRow) ∈ gw := gw_t (gw_t5 (List.mem_of_getElem? (l := tables_1_5) (i := 72) (by decide +kernel))) rfl
theorem qIM_yX4_isRow : (Jvm.Cond.instanceMethod yX4_isRow) ∈ gw := gw_t (gw_t5 (List.mem_of_getElem? (l := tables_1_5) (i := 74) (by decide +kernel))) rfl
theorem qCO_yX4_isRow : (Jvm.Cond.code yX4_isRow prog_6_method_8_code (2 : Nat) (Option.some Jvm.ClassFile.FieldType.boolean)) ∈ gw := gw_t (gw_t5 (List.mem_of_getElem? (l := tables_1_5) (i := 75) (by decide +kernel))) rfl
theorem qML_RX4_80 : (Jvm.Cond.methodLink "HedgesAndDitchesModel" (80 : Nat) yX4_noRow) ∈ gw := gw_t (gw_t5 (List.mem_of_getElem? (l := tables_1_5) (i := 76) (by decide +kernel))) rfl
theorem qIM_yX4_noRow : (Jvm.Cond.instanceMethod yX4_noRow) ∈ gw := gw_t (gw_t5 (List.mem_of_getElem? (l := tables_1_5) (i := 78) (by decide +kernel))) rfl
theorem qCO_yX4_noRow : (Jvm.Cond.code yX4_noRow prog_6_method_10_code (2 : Nat) (Option.some Jvm.ClassFile.FieldType.int)) ∈ gw := gw_t (gw_t5 (List.mem_of_getElem? (l := tables_1_5) (i := 79) (by decide +kernel))) rfl
theorem qML_RX4_83 : (Jvm.Cond.methodLink "HedgesAndDitchesModel" (83 : Nat) yX4_kept) ∈ gw := gw_t (gw_t5 (List.mem_of_getElem? (l := tables_1_5) (i := 80) (by decide +kernel))) rfl
theorem qSM_yX4_kept : (Jvm.Cond.static yX4_kept) ∈ gw := gw_t (gw_t5 (List.mem_of_getElem? (l := tables_1_5) (i := 81) (by decide +kernel))) rfl
theorem qCO_yX4_kept : (Jvm.Cond.code yX4_kept prog_6_method_11_code (3 : Nat) (Option.some Jvm.ClassFile.FieldType.long)) ∈ gw := gw_t (gw_t5 (List.mem_of_getElem? (l := tables_1_5) (i := 82) (by decide +kernel))) rfl
theorem qML_RL_29 : (Jvm.Cond.methodLink "HedgesAndDitchesLaw" (29 : Nat) yX4_copy) ∈ gw := gw_t (gw_t5 (List.mem_of_getElem? (l := tables_1_5) (i := 83) (by decide +kernel))) rfl
theorem qIM_yX4_copy : (Jvm.Cond.instanceMethod yX4_copy) ∈ gw := gw_t (gw_t5 (List.mem_of_getElem? (l := tables_1_5) (i := 84) (by decide +kernel))) rfl
theorem qSE_yX4_copy : (Jvm.Cond.selects "HedgesAndDitchesModel" yX4_copy yX4_copy) ∈ gw := gw_t (gw_t5 (List.mem_of_getElem? (l := tables_1_5) (i := 85) (by decide +kernel))) rfl
theorem qCO_yX4_copy : (Jvm.Cond.code yX4_copy prog_6_method_13_code (7 : Nat) (Option.some Jvm.ClassFile.FieldType.int)) ∈ gw := gw_t (gw_t5 (List.mem_of_getElem? (l := tables_1_5) (i := 86) (by decide +kernel))) rfl
theorem qML_RL_34 : (Jvm.Cond.methodLink "HedgesAndDitchesLaw" (34 : Nat) yX4_element) ∈ gw := gw_t (gw_t5 (List.mem_of_getElem? (l := tables_1_5) (i := 87) (by decide +kernel))) rfl
theorem qIM_yX4_element : (Jvm.Cond.instanceMethod yX4_element) ∈ gw := gw_t (gw_t5 (List.mem_of_getElem? (l := tables_1_5) (i := 88) (by decide +kernel))) rfl
theorem qSE_yX4_element : (Jvm.Cond.selects "HedgesAndDitchesModel" yX4_element yX4_element) ∈ gw := gw_t (gw_t5 (List.mem_of_getElem? (l := tables_1_5) (i := 89) (by decide +kernel))) rfl
theorem qCO_yX4_element : (Jvm.Cond.code yX4_element prog_6_method_14_code (3 : Nat) (Option.some Jvm.ClassFile.FieldType.long)) ∈ gw := gw_t (gw_t5 (List.mem_of_getElem? (l := tables_1_5) (i := 90) (by decide +kernel))) rfl
theorem qML_RL_39 : (Jvm.Cond.methodLink "HedgesAndDitchesLaw" (39 : Nat) yX4_holds) ∈ gw := gw_t (gw_t5 (List.mem_of_getElem? (l := tables_1_5) (i := 91) (by decide +kernel))) rfl
theorem qIM_yX4_holds : (Jvm.Cond.instanceMethod yX4_holds) ∈ gw := gw_t (gw_t5 (List.mem_of_getElem? (l := tables_1_5) (i := 92) (by decide +kernel))) rfl
theorem qSE_yX4_holds : (Jvm.Cond.selects "HedgesAndDitchesModel" yX4_holds yX4_holds) ∈ gw := gw_t (gw_t5 (List.mem_of_getElem? (l := tables_1_5) (i := 93) (by decide +kernel))) rfl
theorem qCO_yX4_holds : (Jvm.Cond.code yX4_holds prog_6_method_15_code (2 : Nat) (Option.some Jvm.ClassFile.FieldType.int)) ∈ gw := gw_t (gw_t5 (List.mem_of_getElem? (l := tables_1_5) (i := 94) (by decide +kernel))) rfl
theorem qML_RL_44 : (Jvm.Cond.methodLink "HedgesAndDitchesLaw" (44 : Nat) yX4_show) ∈ gw := gw_t (gw_t5 (List.mem_of_getElem? (l := tables_1_5) (i := 95) (by decide +kernel))) rfl
theorem qIM_yX4_show : (Jvm.Cond.instanceMethod yX4_show) ∈ gw := gw_t (gw_t5 (List.mem_of_getElem? (l := tables_1_5) (i := 96) (by decide +kernel))) rfl
theorem qSE_yX4_show : (Jvm.Cond.selects "HedgesAndDitchesModel" yX4_show yX4_show) ∈ gw := gw_t (gw_t5 (List.mem_of_getElem? (l := tables_1_5) (i := 97) (by decide +kernel))) rfl
theorem qCO_yX4_show : (Jvm.Cond.code yX4_show prog_6_method_16_code (3 : Nat) (Option.some Jvm.ClassFile.FieldType.int)) ∈ gw := gw_t (gw_t5 (List.mem_of_getElem? (l := tables_1_5) (i := 98) (by decide +kernel))) rfl
theorem qML_RX4_87 : (Jvm.Cond.methodLink "HedgesAndDitchesModel" (87 : Nat) yX4_isPlayer) ∈ gw := gw_t (gw_t5 (List.mem_of_getElem? (l := tables_1_5) (i := 99) (by decide +kernel))) rfl
theorem qIM_yX4_isPlayer : (Jvm.Cond.instanceMethod yX4_isPlayer) ∈ gw := gw_t (gw_t5 (List.mem_of_getElem? (l := tables_1_5) (i := 101) (by decide +kernel))) rfl
theorem qCO_yX4_isPlayer : (Jvm.Cond.code yX4_isPlayer prog_6_method_5_code (2 : Nat) (Option.some Jvm.ClassFile.FieldType.boolean)) ∈ gw := gw_t (gw_t5 (List.mem_of_getElem? (l := tables_1_5) (i := 102) (by decide +kernel))) rfl
theorem qML_RL_48 : (Jvm.Cond.methodLink "HedgesAndDitchesLaw" (48 : Nat) yX4_says) ∈ gw := gw_t (gw_t5 (List.mem_of_getElem? (l := tables_1_5) (i := 103) (by decide +kernel))) rfl
theorem qIM_yX4_says : (Jvm.Cond.instanceMethod yX4_says) ∈ gw := gw_t (gw_t5 (List.mem_of_getElem? (l := tables_1_5) (i := 104) (by decide +kernel))) rfl
theorem qSE_yX4_says : (Jvm.Cond.selects "HedgesAndDitchesModel" yX4_says yX4_says) ∈ gw := gw_t (gw_t5 (List.mem_of_getElem? (l := tables_1_5) (i := 105) (by decide +kernel))) rfl
theorem qCO_yX4_says : (Jvm.Cond.code yX4_says prog_6_method_18_code (4 : Nat) (Option.some Jvm.ClassFile.FieldType.int)) ∈ gw := gw_t (gw_t5 (List.mem_of_getElem? (l := tables_1_5) (i := 106) (by decide +kernel))) rfl
theorem qML_RX4_90 : (Jvm.Cond.methodLink "HedgesAndDitchesModel" (90 : Nat) yX4_isUnder) ∈ gw := gw_t (gw_t5 (List.mem_of_getElem? (l := tables_1_5) (i := 107) (by decide +kernel))) rfl
theorem qSM_yX4_isUnder : (Jvm.Cond.static yX4_isUnder) ∈ gw := gw_t (gw_t5 (List.mem_of_getElem? (l := tables_1_5) (i := 108) (by decide +kernel))) rfl
theorem qCO_yX4_isUnder : (Jvm.Cond.code yX4_isUnder prog_6_method_17_code (2 : Nat) (Option.some Jvm.ClassFile.FieldType.boolean)) ∈ gw := gw_t (gw_t5 (List.mem_of_getElem? (l := tables_1_5) (i := 109) (by decide +kernel))) rfl
theorem qML_RX4_94 : (Jvm.Cond.methodLink "HedgesAndDitchesModel" (94 : Nat) yX4_howMany) ∈ gw := gw_t (gw_t5 (List.mem_of_getElem? (l := tables_1_5) (i := 110) (by decide +kernel))) rfl
theorem qIM_yX4_howMany : (Jvm.Cond.instanceMethod yX4_howMany) ∈ gw := gw_t (gw_t5 (List.mem_of_getElem? (l := tables_1_5) (i := 112) (by decide +kernel))) rfl
theorem qCO_yX4_howMany : (Jvm.Cond.code yX4_howMany prog_6_method_45_code (3 : Nat) (Option.some Jvm.ClassFile.FieldType.int)) ∈ gw := gw_t (gw_t5 (List.mem_of_getElem? (l := tables_1_5) (i := 113) (by decide +kernel))) rfl
theorem qML_RX4_173 : (Jvm.Cond.methodLink "HedgesAndDitchesModel" (173 : Nat) yX4_isMove) ∈ gw := gw_t (gw_t5 (List.mem_of_getElem? (l := tables_1_5) (i := 114) (by decide +kernel))) rfl
theorem qIM_yX4_isMove : (Jvm.Cond.instanceMethod yX4_isMove) ∈ gw := gw_t (gw_t5 (List.mem_of_getElem? (l := tables_1_5) (i := 116) (by decide +kernel))) rfl
theorem qCO_yX4_isMove : (Jvm.Cond.code yX4_isMove prog_6_method_41_code (2 : Nat) (Option.some Jvm.ClassFile.FieldType.boolean)) ∈ gw := gw_t (gw_t5 (List.mem_of_getElem? (l := tables_1_5) (i := 117) (by decide +kernel))) rfl
theorem qML_RX4_116 : (Jvm.Cond.methodLink "HedgesAndDitchesModel" (116 : Nat) yX4_isField) ∈ gw := gw_t (gw_t5 (List.mem_of_getElem? (l := tables_1_5) (i := 118) (by decide +kernel))) rfl
theorem qIM_yX4_isField : (Jvm.Cond.instanceMethod yX4_isField) ∈ gw := gw_t (gw_t5 (List.mem_of_getElem? (l := tables_1_5) (i := 120) (by decide +kernel))) rfl
theorem qCO_yX4_isField : (Jvm.Cond.code yX4_isField prog_6_method_6_code (2 : Nat) (Option.some Jvm.ClassFile.FieldType.boolean)) ∈ gw := gw_t (gw_t5 (List.mem_of_getElem? (l := tables_1_5) (i := 121) (by decide +kernel))) rfl
theorem qML_RX4_176 : (Jvm.Cond.methodLink "HedgesAndDitchesModel" (176 : Nat) yX4_mayBe) ∈ gw := gw_t (gw_t5 (List.mem_of_getElem? (l := tables_1_5) (i := 122) (by decide +kernel))) rfl
theorem qIM_yX4_mayBe : (Jvm.Cond.instanceMethod yX4_mayBe) ∈ gw := gw_t (gw_t5 (List.mem_of_getElem? (l := tables_1_5) (i := 124) (by decide +kernel))) rfl
theorem qCO_yX4_mayBe : (Jvm.Cond.code yX4_mayBe prog_6_method_42_code (2 : Nat) (Option.some Jvm.ClassFile.FieldType.boolean)) ∈ gw := gw_t (gw_t5 (List.mem_of_getElem? (l := tables_1_5) (i := 125) (by decide +kernel))) rfl
theorem qML_RX4_196 : (Jvm.Cond.methodLink "HedgesAndDitchesModel" (196 : Nat) yX4_hedges) ∈ gw := gw_t (gw_t5 (List.mem_of_getElem? (l := tables_1_5) (i := 126) (by decide +kernel))) rfl
theorem qIM_yX4_hedges : (Jvm.Cond.instanceMethod yX4_hedges) ∈ gw := gw_t (gw_t5 (List.mem_of_getElem? (l := tables_1_5) (i := 128) (by decide +kernel))) rfl
theorem qCO_yX4_hedges : (Jvm.Cond.code yX4_hedges prog_6_method_31_code (4 : Nat) (Option.some Jvm.ClassFile.FieldType.int)) ∈ gw := gw_t (gw_t5 (List.mem_of_getElem? (l := tables_1_5) (i := 129) (by decide +kernel))) rfl
theorem qML_RX4_122 : (Jvm.Cond.methodLink "HedgesAndDitchesModel" (122 : Nat) yX4_edge) ∈ gw := gw_t (gw_t5 (List.mem_of_getElem? (l := tables_1_5) (i := 130) (by decide +kernel))) rfl
theorem qIM_yX4_edge : (Jvm.Cond.instanceMethod yX4_edge) ∈ gw := gw_t (gw_t5 (List.mem_of_getElem? (l := tables_1_5) (i := 132) (by decide +kernel))) rfl
theorem qCO_yX4_edge : (Jvm.Cond.code yX4_edge prog_6_method_26_code (5 : Nat) (Option.some Jvm.ClassFile.FieldType.int)) ∈ gw := gw_t (gw_t5 (List.mem_of_getElem? (l := tables_1_5) (i := 133) (by decide +kernel))) rfl
theorem qML_RX4_98 : (Jvm.Cond.methodLink "HedgesAndDitchesModel" (98 : Nat) yX4_choiceOf) ∈ gw := gw_t (gw_t5 (List.mem_of_getElem? (l := tables_1_5) (i := 134) (by decide +kernel))) rfl
theorem qIM_yX4_choiceOf : (Jvm.Cond.instanceMethod yX4_choiceOf) ∈ gw := gw_t (gw_t5 (List.mem_of_getElem? (l := tables_1_5) (i := 136) (by decide +kernel))) rfl
theorem qCO_yX4_choiceOf : (Jvm.Cond.code yX4_choiceOf prog_6_method_76_code (4 : Nat) (Option.some Jvm.ClassFile.FieldType.int)) ∈ gw := gw_t (gw_t5 (List.mem_of_getElem? (l := tables_1_5) (i := 137) (by decide +kernel))) rfl
theorem qML_RX4_265 : (Jvm.Cond.methodLink "HedgesAndDitchesModel" (265 : Nat) yX4_chosen) ∈ gw := gw_t (gw_t5 (List.mem_of_getElem? (l := tables_1_5) (i := 138) (by decide +kernel))) rfl
theorem qIM_yX4_chosen : (Jvm.Cond.instanceMethod yX4_chosen) ∈ gw := gw_t (gw_t5 (List.mem_of_getElem? (l := tables_1_5) (i := 140) (by decide +kernel))) rfl
theorem qCO_yX4_chosen : (Jvm.Cond.code yX4_chosen prog_6_method_75_code (4 : Nat) (Option.some Jvm.ClassFile.FieldType.int)) ∈ gw := gw_t (gw_t5 (List.mem_of_getElem? (l := tables_1_5) (i := 141) (by decide +kernel))) rfl
theorem qML_RX4_252 : (Jvm.Cond.methodLink "HedgesAndDitchesModel" (252 : Nat) yX4_shuts) ∈ gw := gw_t (gw_t5 (List.mem_of_getElem? (l := tables_1_5) (i := 142) (by decide +kernel))) rfl
theorem qIM_yX4_shuts : (Jvm.Cond.instanceMethod yX4_shuts) ∈ gw := gw_t (gw_t5 (List.mem_of_getElem? (l := tables_1_5) (i := 144) (by decide +kernel))) rfl
theorem qCO_yX4_shuts : (Jvm.Cond.code yX4_shuts prog_6_method_71_code (3 : Nat) (Option.some Jvm.ClassFile.FieldType.int)) ∈ gw := gw_t (gw_t5 (List.mem_of_getElem? (l := tables_1_5) (i := 145) (by decide +kernel))) rfl
theorem qML_RX4_119 : (Jvm.Cond.methodLink "HedgesAndDitchesModel" (119 : Nat) yX4_field) ∈ gw := gw_t (gw_t5 (List.mem_of_getElem? (l := tables_1_5) (i := 146) (by decide +kernel))) rfl
theorem qIM_yX4_field : (Jvm.Cond.instanceMethod yX4_field) ∈ gw := gw_t (gw_t5 (List.mem_of_getElem? (l := tables_1_5) (i := 148) (by decide +kernel))) rfl
theorem qCO_yX4_field : (Jvm.Cond.code yX4_field prog_6_method_27_code (5 : Nat) (Option.some Jvm.ClassFile.FieldType.int)) ∈ gw := gw_t (gw_t5 (List.mem_of_getElem? (l := tables_1_5) (i := 149) (by decide +kernel))) rfl
theorem qML_RX4_255 : (Jvm.Cond.methodLink "HedgesAndDitchesModel" (255 : Nat) yX4_digs) ∈ gw := gw_t (gw_t5 (List.mem_of_getElem? (l := tables_1_5) (i := 150) (by decide +kernel))) rfl
theorem qIM_yX4_digs : (Jvm.Cond.instanceMethod yX4_digs) ∈ gw := gw_t (gw_t5 (List.mem_of_getElem? (l := tables_1_5) (i := 152) (by decide +kernel))) rfl
theorem qCO_yX4_digs : (Jvm.Cond.code yX4_digs prog_6_method_74_code (5 : Nat) (Option.some Jvm.ClassFile.FieldType.int)) ∈ gw := gw_t (gw_t5 (List.mem_of_getElem? (l := tables_1_5) (i := 153) (by decide +kernel))) rfl
theorem qML_RX4_205 : (Jvm.Cond.methodLink "HedgesAndDitchesModel" (205 : Nat) yX4_hasRim) ∈ gw := gw_t (gw_t5 (List.mem_of_getElem? (l := tables_1_5) (i := 154) (by decide +kernel))) rfl
theorem qIM_yX4_hasRim : (Jvm.Cond.instanceMethod yX4_hasRim) ∈ gw := gw_t (gw_t5 (List.mem_of_getElem? (l := tables_1_5) (i := 156) (by decide +kernel))) rfl
theorem qCO_yX4_hasRim : (Jvm.Cond.code yX4_hasRim prog_6_method_29_code (3 : Nat) (Option.some Jvm.ClassFile.FieldType.boolean)) ∈ gw := gw_t (gw_t5 (List.mem_of_getElem? (l := tables_1_5) (i := 157) (by decide +kernel))) rfl
theorem qML_RX4_125 : (Jvm.Cond.methodLink "HedgesAndDitchesModel" (125 : Nat) yX4_isRim) ∈ gw := gw_t (gw_t5 (List.mem_of_getElem? (l := tables_1_5) (i := 158) (by decide +kernel))) rfl
theorem qIM_yX4_isRim : (Jvm.Cond.instanceMethod yX4_isRim) ∈ gw := gw_t (gw_t5 (List.mem_of_getElem? (l := tables_1_5) (i := 160) (by decide +kernel))) rfl
theorem qCO_yX4_isRim : (Jvm.Cond.code yX4_isRim prog_6_method_28_code (2 : Nat) (Option.some Jvm.ClassFile.FieldType.boolean)) ∈ gw := gw_t (gw_t5 (List.mem_of_getElem? (l := tables_1_5) (i := 161) (by decide +kernel))) rfl
theorem qML_RX4_259 : (Jvm.Cond.methodLink "HedgesAndDitchesModel" (259 : Nat) yX4_careful) ∈ gw := gw_t (gw_t5 (List.mem_of_getElem? (l := tables_1_5) (i := 162) (by decide +kernel))) rfl
theorem qIM_yX4_careful : (Jvm.Cond.instanceMethod yX4_careful) ∈ gw := gw_t (gw_t5 (List.mem_of_getElem? (l := tables_1_5) (i := 164) (by decide +kernel))) rfl
theorem qCO_yX4_careful : (Jvm.Cond.code yX4_careful prog_6_method_73_code (2 : Nat) (Option.some Jvm.ClassFile.FieldType.int)) ∈ gw := gw_t (gw_t5 (List.mem_of_getElem? (l := tables_1_5) (i := 165) (by decide +kernel))) rfl
theorem qML_RX4_249 : (Jvm.Cond.methodLink "HedgesAndDitchesModel" (249 : Nat) yX4_isCalm) ∈ gw := gw_t (gw_t5 (List.mem_of_getElem? (l := tables_1_5) (i := 166) (by decide +kernel))) rfl
theorem qIM_yX4_isCalm : (Jvm.Cond.instanceMethod yX4_isCalm) ∈ gw := gw_t (gw_t5 (List.mem_of_getElem? (l := tables_1_5) (i := 168) (by decide +kernel))) rfl
theorem qCO_yX4_isCalm : (Jvm.Cond.code yX4_isCalm prog_6_method_72_code (3 : Nat) (Option.some Jvm.ClassFile.FieldType.boolean)) ∈ gw := gw_t (gw_t5 (List.mem_of_getElem? (l := tables_1_5) (i := 169) (by decide +kernel))) rfl
theorem qML_RX4_246 : (Jvm.Cond.methodLink "HedgesAndDitchesModel" (246 : Nat) yX4_thirds) ∈ gw := gw_t (gw_t5 (List.mem_of_getElem? (l := tables_1_5) (i := 170) (by decide +kernel))) rfl
theorem qIM_yX4_thirds : (Jvm.Cond.instanceMethod yX4_thirds) ∈ gw := gw_t (gw_t5 (List.mem_of_getElem? (l := tables_1_5) (i := 171) (by decide +kernel))) rfl
theorem qSE_yX4_thirds : (Jvm.Cond.selects "HedgesAndDitchesModel" yX4_thirds yX4_thirds) ∈ gw := gw_t (gw_t5 (List.mem_of_getElem? (l := tables_1_5) (i := 172) (by decide +kernel))) rfl
theorem qCO_yX4_thirds : (Jvm.Cond.code yX4_thirds prog_6_method_63_code (3 : Nat) (Option.some Jvm.ClassFile.FieldType.int)) ∈ gw := gw_t (gw_t5 (List.mem_of_getElem? (l := tables_1_5) (i := 173) (by decide +kernel))) rfl
theorem qML_RX4_262 : (Jvm.Cond.methodLink "HedgesAndDitchesModel" (262 : Nat) yX4_draw) ∈ gw := gw_t (gw_t5 (List.mem_of_getElem? (l := tables_1_5) (i := 174) (by decide +kernel))) rfl
theorem qIM_yX4_draw : (Jvm.Cond.instanceMethod yX4_draw) ∈ gw := gw_t (gw_t5 (List.mem_of_getElem? (l := tables_1_5) (i := 176) (by decide +kernel))) rfl
theorem qCO_yX4_draw : (Jvm.Cond.code yX4_draw prog_6_method_70_code (2 : Nat) (Option.some Jvm.ClassFile.FieldType.int)) ∈ gw := gw_t (gw_t5 (List.mem_of_getElem? (l := tables_1_5) (i := 177) (by decide +kernel))) rfl
theorem qCT_RX4_245 : (Jvm.Cond.constant "HedgesAndDitchesModel" (245 : Nat) (1103515245 : Int32)) ∈ gw := gw_t (gw_t5 (List.mem_of_getElem? (l := tables_1_5) (i := 178) (by decide +kernel))) rfl
theorem qML_RX4_208 : (Jvm.Cond.methodLink "HedgesAndDitchesModel" (208 : Nat) yX4_ith) ∈ gw := gw_t (gw_t5 (List.mem_of_getElem? (l := tables_1_5) (i := 179) (by decide +kernel))) rfl
theorem qIM_yX4_ith : (Jvm.Cond.instanceMethod yX4_ith) ∈ gw := gw_t (gw_t5 (List.mem_of_getElem? (l := tables_1_5) (i := 181) (by decide +kernel))) rfl
theorem qCO_yX4_ith : (Jvm.Cond.code yX4_ith prog_6_method_44_code (4 : Nat) (Option.some Jvm.ClassFile.FieldType.int)) ∈ gw := gw_t (gw_t5 (List.mem_of_getElem? (l := tables_1_5) (i := 182) (by decide +kernel))) rfl
theorem qML_RL_52 : (Jvm.Cond.methodLink "HedgesAndDitchesLaw" (52 : Nat) yX4_size) ∈ gw := gw_t (gw_t5 (List.mem_of_getElem? (l := tables_1_5) (i := 183) (by decide +kernel))) rfl
theorem qIM_yX4_size : (Jvm.Cond.instanceMethod yX4_size) ∈ gw := gw_t (gw_t5 (List.mem_of_getElem? (l := tables_1_5) (i := 184) (by decide +kernel))) rfl
theorem qSE_yX4_size : (Jvm.Cond.selects "HedgesAndDitchesModel" yX4_size yX4_size) ∈ gw := gw_t (gw_t5 (List.mem_of_getElem? (l := tables_1_5) (i := 185) (by decide +kernel))) rfl
theorem qCO_yX4_size : (Jvm.Cond.code yX4_size prog_6_method_22_code (3 : Nat) (Option.some Jvm.ClassFile.FieldType.int)) ∈ gw := gw_t (gw_t5 (List.mem_of_getElem? (l := tables_1_5) (i := 186) (by decide +kernel))) rfl
theorem qML_RL_56 : (Jvm.Cond.methodLink "HedgesAndDitchesLaw" (56 : Nat) yX4_player) ∈ gw := gw_t (gw_t5 (List.mem_of_getElem? (l := tables_1_5) (i := 187) (by decide +kernel))) rfl
theorem qIM_yX4_player : (Jvm.Cond.instanceMethod yX4_player) ∈ gw := gw_t (gw_t5 (List.mem_of_getElem? (l := tables_1_5) (i := 188) (by decide +kernel))) rfl
theorem qSE_yX4_player : (Jvm.Cond.selects "HedgesAndDitchesModel" yX4_player yX4_player) ∈ gw := gw_t (gw_t5 (List.mem_of_getElem? (l := tables_1_5) (i := 189) (by decide +kernel))) rfl
theorem qCO_yX4_player : (Jvm.Cond.code yX4_player prog_6_method_24_code (3 : Nat) (Option.some Jvm.ClassFile.FieldType.int)) ∈ gw := gw_t (gw_t5 (List.mem_of_getElem? (l := tables_1_5) (i := 190) (by decide +kernel))) rfl
theorem qML_RX4_113 : (Jvm.Cond.methodLink "HedgesAndDitchesModel" (113 : Nat) yX4_newPlayer) ∈ gw := gw_t (gw_t5 (List.mem_of_getElem? (l := tables_1_5) (i := 191) (by decide +kernel))) rfl
theorem qIM_yX4_newPlayer : (Jvm.Cond.instanceMethod yX4_newPlayer) ∈ gw := gw_t (gw_t5 (List.mem_of_getElem? (l := tables_1_5) (i := 193) (by decide +kernel))) rfl
theorem qCO_yX4_newPlayer : (Jvm.Cond.code yX4_newPlayer prog_6_method_23_code (3 : Nat) (Option.some Jvm.ClassFile.FieldType.int)) ∈ gw := gw_t (gw_t5 (List.mem_of_getElem? (l := tables_1_5) (i := 194) (by decide +kernel))) rfl
theorem qML_RL_60 : (Jvm.Cond.methodLink "HedgesAndDitchesLaw" (60 : Nat) yX4_turn) ∈ gw := gw_t (gw_t5 (List.mem_of_getElem? (l := tables_1_5) (i := 195) (by decide +kernel))) rfl
theorem qIM_yX4_turn : (Jvm.Cond.instanceMethod yX4_turn) ∈ gw := gw_t (gw_t5 (List.mem_of_getElem? (l := tables_1_5) (i := 196) (by decide +kernel))) rfl
theorem qSE_yX4_turn : (Jvm.Cond.selects "HedgesAndDitchesModel" yX4_turn yX4_turn) ∈ gw := gw_t (gw_t5 (List.mem_of_getElem? (l := tables_1_5) (i := 197) (by decide +kernel))) rfl
theorem qCO_yX4_turn : (Jvm.Cond.code yX4_turn prog_6_method_25_code (3 : Nat) (Option.some Jvm.ClassFile.FieldType.int)) ∈ gw := gw_t (gw_t5 (List.mem_of_getElem? (l := tables_1_5) (i := 198) (by decide +kernel))) rfl
theorem qML_RL_64 : (Jvm.Cond.methodLink "HedgesAndDitchesLaw" (64 : Nat) yX4_feed) ∈ gw := gw_t (gw_t5 (List.mem_of_getElem? (l := tables_1_5) (i := 199) (by decide +kernel))) rfl
theorem qIM_yX4_feed : (Jvm.Cond.instanceMethod yX4_feed) ∈ gw := gw_t (gw_t5 (List.mem_of_getElem? (l := tables_1_5) (i := 200) (by decide +kernel))) rfl
theorem qSE_yX4_feed : (Jvm.Cond.selects "HedgesAndDitchesModel" yX4_feed yX4_feed) ∈ gw := gw_t (gw_t5 (List.mem_of_getElem? (l := tables_1_5) (i := 201) (by decide +kernel))) rfl
theorem qCO_yX4_feed : (Jvm.Cond.code yX4_feed prog_6_method_32_code (2 : Nat) (Option.some Jvm.ClassFile.FieldType.int)) ∈ gw := gw_t (gw_t5 (List.mem_of_getElem? (l := tables_1_5) (i := 202) (by decide +kernel))) rfl
theorem qML_RL_69 : (Jvm.Cond.methodLink "HedgesAndDitchesLaw" (69 : Nat) yX4_wipe) ∈ gw := gw_t (gw_t5 (List.mem_of_getElem? (l := tables_1_5) (i := 203) (by decide +kernel))) rfl
theorem qIM_yX4_wipe : (Jvm.Cond.instanceMethod yX4_wipe) ∈ gw := gw_t (gw_t5 (List.mem_of_getElem? (l := tables_1_5) (i := 204) (by decide +kernel))) rfl
theorem qSE_yX4_wipe : (Jvm.Cond.selects "HedgesAndDitchesModel" yX4_wipe yX4_wipe) ∈ gw := gw_t (gw_t5 (List.mem_of_getElem? (l := tables_1_5) (i := 205) (by decide +kernel))) rfl
theorem qCO_yX4_wipe : (Jvm.Cond.code yX4_wipe prog_6_method_33_code (2 : Nat) (Option.some Jvm.ClassFile.FieldType.int)) ∈ gw := gw_t (gw_t5 (List.mem_of_getElem? (l := tables_1_5) (i := 206) (by decide +kernel))) rfl
theorem qML_RL_73 : (Jvm.Cond.methodLink "HedgesAndDitchesLaw" (73 : Nat) yX4_board) ∈ gw := gw_t (gw_t5 (List.mem_of_getElem? (l := tables_1_5) (i := 207) (by decide +kernel))) rfl
theorem qIM_yX4_board : (Jvm.Cond.instanceMethod yX4_board) ∈ gw := gw_t (gw_t5 (List.mem_of_getElem? (l := tables_1_5) (i := 208) (by decide +kernel))) rfl
theorem qSE_yX4_board : (Jvm.Cond.selects "HedgesAndDitchesModel" yX4_board yX4_board) ∈ gw := gw_t (gw_t5 (List.mem_of_getElem? (l := tables_1_5) (i := 209) (by decide +kernel))) rfl
theorem qCO_yX4_board : (Jvm.Cond.code yX4_board prog_6_method_40_code (3 : Nat) (Option.some Jvm.ClassFile.FieldType.int)) ∈ gw := gw_t (gw_t5 (List.mem_of_getElem? (l := tables_1_5) (i := 210) (by decide +kernel))) rfl
theorem qML_RX4_185 : (Jvm.Cond.methodLink "HedgesAndDitchesModel" (185 : Nat) yX4_keep) ∈ gw := gw_t (gw_t5 (List.mem_of_getElem? (l := tables_1_5) (i := 211) (by decide +kernel))) rfl
theorem qIM_yX4_keep : (Jvm.Cond.instanceMethod yX4_keep) ∈ gw := gw_t (gw_t5 (List.mem_of_getElem? (l := tables_1_5) (i := 213) (by decide +kernel))) rfl
theorem qCO_yX4_keep : (Jvm.Cond.code yX4_keep prog_6_method_116_code (3 : Nat) (Option.none : Option Jvm.ClassFile.FieldType)) ∈ gw := gw_t (gw_t5 (List.mem_of_getElem? (l := tables_1_5) (i := 214) (by decide +kernel))) rfl
theorem qML_RX4_158 : (Jvm.Cond.methodLink "HedgesAndDitchesModel" (158 : Nat) yX4_next) ∈ gw := gw_t (gw_t5 (List.mem_of_getElem? (l := tables_1_5) (i := 215) (by decide +kernel))) rfl
theorem qIM_yX4_next : (Jvm.Cond.instanceMethod yX4_next) ∈ gw := gw_t (gw_t5 (List.mem_of_getElem? (l := tables_1_5) (i := 217) (by decide +kernel))) rfl
theorem qCO_yX4_next : (Jvm.Cond.code yX4_next prog_6_method_36_code (2 : Nat) (Option.none : Option Jvm.ClassFile.FieldType)) ∈ gw := gw_t (gw_t5 (List.mem_of_getElem? (l := tables_1_5) (i := 218) (by decide +kernel))) rfl
theorem qML_RX4_140 : (Jvm.Cond.methodLink "HedgesAndDitchesModel" (140 : Nat) yX4_isLetter) ∈ gw := gw_t (gw_t5 (List.mem_of_getElem? (l := tables_1_5) (i := 219) (by decide +kernel))) rfl
theorem qSM_yX4_isLetter : (Jvm.Cond.static yX4_isLetter) ∈ gw := gw_t (gw_t5 (List.mem_of_getElem? (l := tables_1_5) (i := 220) (by decide +kernel))) rfl
theorem qCO_yX4_isLetter : (Jvm.Cond.code yX4_isLetter prog_6_method_34_code (1 : Nat) (Option.some Jvm.ClassFile.FieldType.boolean)) ∈ gw := gw_t (gw_t5 (List.mem_of_getElem? (l := tables_1_5) (i := 221) (by decide +kernel))) rfl
theorem qML_RX4_143 : (Jvm.Cond.methodLink "HedgesAndDitchesModel" (143 : Nat) yX4_isDigit) ∈ gw := gw_t (gw_t5 (List.mem_of_getElem? (l := tables_1_5) (i := 222) (by decide +kernel))) rfl
theorem qSM_yX4_isDigit : (Jvm.Cond.static yX4_isDigit) ∈ gw := gw_t (gw_t5 (List.mem_of_getElem? (l := tables_1_5) (i := 223) (by decide +kernel))) rfl
theorem qCO_yX4_isDigit : (Jvm.Cond.code yX4_isDigit prog_6_method_35_code (1 : Nat) (Option.some Jvm.ClassFile.FieldType.boolean)) ∈ gw := gw_t (gw_t5 (List.mem_of_getElem? (l := tables_1_5) (i := 224) (by decide +kernel))) rfl
theorem qML_RX4_189 : (Jvm.Cond.methodLink "HedgesAndDitchesModel" (189 : Nat) yX4_statement) ∈ gw := gw_t (gw_t5 (List.mem_of_getElem? (l := tables_1_5) (i := 225) (by decide +kernel))) rfl
theorem qIM_yX4_statement : (Jvm.Cond.instanceMethod yX4_statement) ∈ gw := gw_t (gw_t5 (List.mem_of_getElem? (l := tables_1_5) (i := 227) (by decide +kernel))) rfl
theorem qCO_yX4_statement : (Jvm.Cond.code yX4_statement prog_6_method_39_code (4 : Nat) (Option.some Jvm.ClassFile.FieldType.boolean)) ∈ gw := gw_t (gw_t5 (List.mem_of_getElem? (l := tables_1_5) (i := 228) (by decide +kernel))) rfl
theorem qstringRef_5_229 : (Jvm.Cond.stringRef "HedgesAndDitchesModel" (161 : Nat) "size") ∈ lw_tbl := List.mem_append_right _ (gw_t5 (List.mem_of_getElem? (l := tables_1_5) (i := 229) (by decide +kernel)))
theorem qML_RX4_163 : (Jvm.Cond.methodLink "HedgesAndDitchesModel" (163 : Nat) yX4_isWord) ∈ gw := gw_t (gw_t5 (List.mem_of_getElem? (l := tables_1_5) (i := 230) (by decide +kernel))) rfl
theorem qIM_yX4_isWord : (Jvm.Cond.instanceMethod yX4_isWord) ∈ gw := gw_t (gw_t5 (List.mem_of_getElem? (l := tables_1_5) (i := 232) (by decide +kernel))) rfl
theorem qCO_yX4_isWord : (Jvm.Cond.code yX4_isWord prog_6_method_37_code (3 : Nat) (Option.some Jvm.ClassFile.FieldType.boolean)) ∈ gw := gw_t (gw_t5 (List.mem_of_getElem? (l := tables_1_5) (i := 233) (by decide +kernel))) rfl
theorem qML_RX4_149 : (Jvm.Cond.methodLink "HedgesAndDitchesModel" (149 : Nat) yJ0_length_8abf5) ∈ gw := gw_t (gw_t5 (List.mem_of_getElem? (l := tables_1_5) (i := 234) (by decide +kernel))) rfl
theorem qML_RX4_154 : (Jvm.Cond.methodLink "HedgesAndDitchesModel" (154 : Nat) yJ0_charAt_5068e) ∈ gw := gw_t (gw_t5 (List.mem_of_getElem? (l := tables_1_5) (i := 235) (by decide +kernel))) rfl
theorem qML_RX4_167 : (Jvm.Cond.methodLink "HedgesAndDitchesModel" (167 : Nat) yX4_number) ∈ gw := gw_t (gw_t5 (List.mem_of_getElem? (l := tables_1_5) (i := 236) (by decide +kernel))) rfl
theorem qIM_yX4_number : (Jvm.Cond.instanceMethod yX4_number) ∈ gw := gw_t (gw_t5 (List.mem_of_getElem? (l := tables_1_5) (i := 238) (by decide +kernel))) rfl
theorem qCO_yX4_number : (Jvm.Cond.code yX4_number prog_6_method_38_code (3 : Nat) (Option.some Jvm.ClassFile.FieldType.int)) ∈ gw := gw_t (gw_t5 (List.mem_of_getElem? (l := tables_1_5) (i := 239) (by decide +kernel))) rfl
theorem qstringRef_6_0 : (Jvm.Cond.stringRef "HedgesAndDitchesModel" (170 : Nat) "hedge") ∈ lw_tbl := List.mem_append_right _ (gw_t6 (List.mem_of_getElem? (l := tables_1_6) (i := 0) (by decide +kernel)))
theorem qstringRef_6_1 : (Jvm.Cond.stringRef "HedgesAndDitchesModel" (171 : Nat) "dig") ∈ lw_tbl := List.mem_append_right _ (gw_t6 (List.mem_of_getElem? (l := tables_1_6) (i := 1) (by decide +kernel)))
theorem qML_RX4_179 : (Jvm.Cond.methodLink "HedgesAndDitchesModel" (179 : Nat) yX4_makes) ∈ gw := gw_t (gw_t6 (List.mem_of_getElem? (l := tables_1_6) (i := 2) (by decide +kernel))) rfl
theorem qIM_yX4_makes : (Jvm.Cond.instanceMethod yX4_makes) ∈ gw := gw_t (gw_t6 (List.mem_of_getElem? (l := tables_1_6) (i := 4) (by decide +kernel))) rfl
theorem qCO_yX4_makes : (Jvm.Cond.code yX4_makes prog_6_method_43_code (5 : Nat) (Option.some Jvm.ClassFile.FieldType.int)) ∈ gw := gw_t (gw_t6 (List.mem_of_getElem? (l := tables_1_6) (i := 5) (by decide +kernel))) rfl
theorem qstringRef_6_6 : (Jvm.Cond.stringRef "HedgesAndDitchesModel" (182 : Nat) "turn") ∈ lw_tbl := List.mem_append_right _ (gw_t6 (List.mem_of_getElem? (l := tables_1_6) (i := 6) (by decide +kernel)))
theorem qstringRef_6_7 : (Jvm.Cond.stringRef "HedgesAndDitchesModel" (183 : Nat) "player") ∈ lw_tbl := List.mem_append_right _ (gw_t6 (List.mem_of_getElem? (l := tables_1_6) (i := 7) (by decide +kernel)))
theorem qML_RX4_193 : (Jvm.Cond.methodLink "HedgesAndDitchesModel" (193 : Nat) yX4_again) ∈ gw := gw_t (gw_t6 (List.mem_of_getElem? (l := tables_1_6) (i := 8) (by decide +kernel))) rfl
theorem qIM_yX4_again : (Jvm.Cond.instanceMethod yX4_again) ∈ gw := gw_t (gw_t6 (List.mem_of_getElem? (l := tables_1_6) (i := 10) (by decide +kernel))) rfl
theorem qCO_yX4_again : (Jvm.Cond.code yX4_again prog_6_method_117_code (3 : Nat) (Option.none : Option Jvm.ClassFile.FieldType)) ∈ gw := gw_t (gw_t6 (List.mem_of_getElem? (l := tables_1_6) (i := 11) (by decide +kernel))) rfl
theorem qML_RL_77 : (Jvm.Cond.methodLink "HedgesAndDitchesLaw" (77 : Nat) yX4_fieldOf) ∈ gw := gw_t (gw_t6 (List.mem_of_getElem? (l := tables_1_6) (i := 12) (by decide +kernel))) rfl
theorem qIM_yX4_fieldOf : (Jvm.Cond.instanceMethod yX4_fieldOf) ∈ gw := gw_t (gw_t6 (List.mem_of_getElem? (l := tables_1_6) (i := 13) (by decide +kernel))) rfl
theorem qSE_yX4_fieldOf : (Jvm.Cond.selects "HedgesAndDitchesModel" yX4_fieldOf yX4_fieldOf) ∈ gw := gw_t (gw_t6 (List.mem_of_getElem? (l := tables_1_6) (i := 14) (by decide +kernel))) rfl
theorem qCO_yX4_fieldOf : (Jvm.Cond.code yX4_fieldOf prog_6_method_46_code (3 : Nat) (Option.some Jvm.ClassFile.FieldType.int)) ∈ gw := gw_t (gw_t6 (List.mem_of_getElem? (l := tables_1_6) (i := 15) (by decide +kernel))) rfl
theorem qML_RX4_199 : (Jvm.Cond.methodLink "HedgesAndDitchesModel" (199 : Nat) yX4_drains) ∈ gw := gw_t (gw_t6 (List.mem_of_getElem? (l := tables_1_6) (i := 16) (by decide +kernel))) rfl
theorem qIM_yX4_drains : (Jvm.Cond.instanceMethod yX4_drains) ∈ gw := gw_t (gw_t6 (List.mem_of_getElem? (l := tables_1_6) (i := 18) (by decide +kernel))) rfl
theorem qCO_yX4_drains : (Jvm.Cond.code yX4_drains prog_6_method_53_code (3 : Nat) (Option.some Jvm.ClassFile.FieldType.int)) ∈ gw := gw_t (gw_t6 (List.mem_of_getElem? (l := tables_1_6) (i := 19) (by decide +kernel))) rfl
theorem qML_RX4_214 : (Jvm.Cond.methodLink "HedgesAndDitchesModel" (214 : Nat) yX4_ditchOf) ∈ gw := gw_t (gw_t6 (List.mem_of_getElem? (l := tables_1_6) (i := 20) (by decide +kernel))) rfl
theorem qIM_yX4_ditchOf : (Jvm.Cond.instanceMethod yX4_ditchOf) ∈ gw := gw_t (gw_t6 (List.mem_of_getElem? (l := tables_1_6) (i := 22) (by decide +kernel))) rfl
theorem qCO_yX4_ditchOf : (Jvm.Cond.code yX4_ditchOf prog_6_method_51_code (7 : Nat) (Option.some Jvm.ClassFile.FieldType.int)) ∈ gw := gw_t (gw_t6 (List.mem_of_getElem? (l := tables_1_6) (i := 23) (by decide +kernel))) rfl
theorem qML_RX4_211 : (Jvm.Cond.methodLink "HedgesAndDitchesModel" (211 : Nat) yX4_beside) ∈ gw := gw_t (gw_t6 (List.mem_of_getElem? (l := tables_1_6) (i := 24) (by decide +kernel))) rfl
theorem qIM_yX4_beside : (Jvm.Cond.instanceMethod yX4_beside) ∈ gw := gw_t (gw_t6 (List.mem_of_getElem? (l := tables_1_6) (i := 26) (by decide +kernel))) rfl
theorem qCO_yX4_beside : (Jvm.Cond.code yX4_beside prog_6_method_30_code (3 : Nat) (Option.some Jvm.ClassFile.FieldType.int)) ∈ gw := gw_t (gw_t6 (List.mem_of_getElem? (l := tables_1_6) (i := 27) (by decide +kernel))) rfl
theorem qML_RX4_217 : (Jvm.Cond.methodLink "HedgesAndDitchesModel" (217 : Nat) yX4_isOpen) ∈ gw := gw_t (gw_t6 (List.mem_of_getElem? (l := tables_1_6) (i := 28) (by decide +kernel))) rfl
theorem qIM_yX4_isOpen : (Jvm.Cond.instanceMethod yX4_isOpen) ∈ gw := gw_t (gw_t6 (List.mem_of_getElem? (l := tables_1_6) (i := 30) (by decide +kernel))) rfl
theorem qCO_yX4_isOpen : (Jvm.Cond.code yX4_isOpen prog_6_method_52_code (4 : Nat) (Option.some Jvm.ClassFile.FieldType.boolean)) ∈ gw := gw_t (gw_t6 (List.mem_of_getElem? (l := tables_1_6) (i := 31) (by decide +kernel))) rfl
theorem qML_RX4_202 : (Jvm.Cond.methodLink "HedgesAndDitchesModel" (202 : Nat) yX4_colour) ∈ gw := gw_t (gw_t6 (List.mem_of_getElem? (l := tables_1_6) (i := 32) (by decide +kernel))) rfl
theorem qIM_yX4_colour : (Jvm.Cond.instanceMethod yX4_colour) ∈ gw := gw_t (gw_t6 (List.mem_of_getElem? (l := tables_1_6) (i := 34) (by decide +kernel))) rfl
theorem qCO_yX4_colour : (Jvm.Cond.code yX4_colour prog_6_method_54_code (5 : Nat) (Option.some Jvm.ClassFile.FieldType.int)) ∈ gw := gw_t (gw_t6 (List.mem_of_getElem? (l := tables_1_6) (i := 35) (by decide +kernel))) rfl
theorem qML_RL_81 : (Jvm.Cond.methodLink "HedgesAndDitchesLaw" (81 : Nat) yX4_edgeOf) ∈ gw := gw_t (gw_t6 (List.mem_of_getElem? (l := tables_1_6) (i := 36) (by decide +kernel))) rfl
theorem qIM_yX4_edgeOf : (Jvm.Cond.instanceMethod yX4_edgeOf) ∈ gw := gw_t (gw_t6 (List.mem_of_getElem? (l := tables_1_6) (i := 37) (by decide +kernel))) rfl
theorem qSE_yX4_edgeOf : (Jvm.Cond.selects "HedgesAndDitchesModel" yX4_edgeOf yX4_edgeOf) ∈ gw := gw_t (gw_t6 (List.mem_of_getElem? (l := tables_1_6) (i := 38) (by decide +kernel))) rfl
theorem qCO_yX4_edgeOf : (Jvm.Cond.code yX4_edgeOf prog_6_method_47_code (3 : Nat) (Option.some Jvm.ClassFile.FieldType.int)) ∈ gw := gw_t (gw_t6 (List.mem_of_getElem? (l := tables_1_6) (i := 39) (by decide +kernel))) rfl
theorem qML_RL_85 : (Jvm.Cond.methodLink "HedgesAndDitchesLaw" (85 : Nat) yX4_playerOf) ∈ gw := gw_t (gw_t6 (List.mem_of_getElem? (l := tables_1_6) (i := 40) (by decide +kernel))) rfl
theorem qIM_yX4_playerOf : (Jvm.Cond.instanceMethod yX4_playerOf) ∈ gw := gw_t (gw_t6 (List.mem_of_getElem? (l := tables_1_6) (i := 41) (by decide +kernel))) rfl
theorem qSE_yX4_playerOf : (Jvm.Cond.selects "HedgesAndDitchesModel" yX4_playerOf yX4_playerOf) ∈ gw := gw_t (gw_t6 (List.mem_of_getElem? (l := tables_1_6) (i := 42) (by decide +kernel))) rfl
theorem qCO_yX4_playerOf : (Jvm.Cond.code yX4_playerOf prog_6_method_48_code (3 : Nat) (Option.some Jvm.ClassFile.FieldType.int)) ∈ gw := gw_t (gw_t6 (List.mem_of_getElem? (l := tables_1_6) (i := 43) (by decide +kernel))) rfl
theorem qML_RL_89 : (Jvm.Cond.methodLink "HedgesAndDitchesLaw" (89 : Nat) yX4_may) ∈ gw := gw_t (gw_t6 (List.mem_of_getElem? (l := tables_1_6) (i := 44) (by decide +kernel))) rfl
theorem qIM_yX4_may : (Jvm.Cond.instanceMethod yX4_may) ∈ gw := gw_t (gw_t6 (List.mem_of_getElem? (l := tables_1_6) (i := 45) (by decide +kernel))) rfl
theorem qSE_yX4_may : (Jvm.Cond.selects "HedgesAndDitchesModel" yX4_may yX4_may) ∈ gw := gw_t (gw_t6 (List.mem_of_getElem? (l := tables_1_6) (i := 46) (by decide +kernel))) rfl
theorem qCO_yX4_may : (Jvm.Cond.code yX4_may prog_6_method_49_code (2 : Nat) (Option.some Jvm.ClassFile.FieldType.int)) ∈ gw := gw_t (gw_t6 (List.mem_of_getElem? (l := tables_1_6) (i := 47) (by decide +kernel))) rfl
theorem qML_RL_93 : (Jvm.Cond.methodLink "HedgesAndDitchesLaw" (93 : Nat) yX4_moves) ∈ gw := gw_t (gw_t6 (List.mem_of_getElem? (l := tables_1_6) (i := 48) (by decide +kernel))) rfl
theorem qIM_yX4_moves : (Jvm.Cond.instanceMethod yX4_moves) ∈ gw := gw_t (gw_t6 (List.mem_of_getElem? (l := tables_1_6) (i := 49) (by decide +kernel))) rfl
theorem qSE_yX4_moves : (Jvm.Cond.selects "HedgesAndDitchesModel" yX4_moves yX4_moves) ∈ gw := gw_t (gw_t6 (List.mem_of_getElem? (l := tables_1_6) (i := 50) (by decide +kernel))) rfl
theorem qCO_yX4_moves : (Jvm.Cond.code yX4_moves prog_6_method_50_code (3 : Nat) (Option.some Jvm.ClassFile.FieldType.int)) ∈ gw := gw_t (gw_t6 (List.mem_of_getElem? (l := tables_1_6) (i := 51) (by decide +kernel))) rfl
theorem qML_RL_97 : (Jvm.Cond.methodLink "HedgesAndDitchesLaw" (97 : Nat) yX4_score) ∈ gw := gw_t (gw_t6 (List.mem_of_getElem? (l := tables_1_6) (i := 52) (by decide +kernel))) rfl
theorem qIM_yX4_score : (Jvm.Cond.instanceMethod yX4_score) ∈ gw := gw_t (gw_t6 (List.mem_of_getElem? (l := tables_1_6) (i := 53) (by decide +kernel))) rfl
theorem qSE_yX4_score : (Jvm.Cond.selects "HedgesAndDitchesModel" yX4_score yX4_score) ∈ gw := gw_t (gw_t6 (List.mem_of_getElem? (l := tables_1_6) (i := 54) (by decide +kernel))) rfl
theorem qCO_yX4_score : (Jvm.Cond.code yX4_score prog_6_method_58_code (2 : Nat) (Option.some Jvm.ClassFile.FieldType.int)) ∈ gw := gw_t (gw_t6 (List.mem_of_getElem? (l := tables_1_6) (i := 55) (by decide +kernel))) rfl
theorem qML_RX4_223 : (Jvm.Cond.methodLink "HedgesAndDitchesModel" (223 : Nat) yX4_scoreOf) ∈ gw := gw_t (gw_t6 (List.mem_of_getElem? (l := tables_1_6) (i := 56) (by decide +kernel))) rfl
theorem qIM_yX4_scoreOf : (Jvm.Cond.instanceMethod yX4_scoreOf) ∈ gw := gw_t (gw_t6 (List.mem_of_getElem? (l := tables_1_6) (i := 58) (by decide +kernel))) rfl
theorem qCO_yX4_scoreOf : (Jvm.Cond.code yX4_scoreOf prog_6_method_56_code (5 : Nat) (Option.some Jvm.ClassFile.FieldType.int)) ∈ gw := gw_t (gw_t6 (List.mem_of_getElem? (l := tables_1_6) (i := 59) (by decide +kernel))) rfl
theorem qML_RX4_220 : (Jvm.Cond.methodLink "HedgesAndDitchesModel" (220 : Nat) yX4_lanesOf) ∈ gw := gw_t (gw_t6 (List.mem_of_getElem? (l := tables_1_6) (i := 60) (by decide +kernel))) rfl
theorem qIM_yX4_lanesOf : (Jvm.Cond.instanceMethod yX4_lanesOf) ∈ gw := gw_t (gw_t6 (List.mem_of_getElem? (l := tables_1_6) (i := 62) (by decide +kernel))) rfl
theorem qCO_yX4_lanesOf : (Jvm.Cond.code yX4_lanesOf prog_6_method_55_code (5 : Nat) (Option.some Jvm.ClassFile.FieldType.int)) ∈ gw := gw_t (gw_t6 (List.mem_of_getElem? (l := tables_1_6) (i := 63) (by decide +kernel))) rfl
theorem qML_RL_101 : (Jvm.Cond.methodLink "HedgesAndDitchesLaw" (101 : Nat) yX4_lead) ∈ gw := gw_t (gw_t6 (List.mem_of_getElem? (l := tables_1_6) (i := 64) (by decide +kernel))) rfl
theorem qIM_yX4_lead : (Jvm.Cond.instanceMethod yX4_lead) ∈ gw := gw_t (gw_t6 (List.mem_of_getElem? (l := tables_1_6) (i := 65) (by decide +kernel))) rfl
theorem qSE_yX4_lead : (Jvm.Cond.selects "HedgesAndDitchesModel" yX4_lead yX4_lead) ∈ gw := gw_t (gw_t6 (List.mem_of_getElem? (l := tables_1_6) (i := 66) (by decide +kernel))) rfl
theorem qCO_yX4_lead : (Jvm.Cond.code yX4_lead prog_6_method_59_code (2 : Nat) (Option.some Jvm.ClassFile.FieldType.int)) ∈ gw := gw_t (gw_t6 (List.mem_of_getElem? (l := tables_1_6) (i := 67) (by decide +kernel))) rfl
theorem qML_RX4_226 : (Jvm.Cond.methodLink "HedgesAndDitchesModel" (226 : Nat) yX4_leadOf) ∈ gw := gw_t (gw_t6 (List.mem_of_getElem? (l := tables_1_6) (i := 68) (by decide +kernel))) rfl
theorem qIM_yX4_leadOf : (Jvm.Cond.instanceMethod yX4_leadOf) ∈ gw := gw_t (gw_t6 (List.mem_of_getElem? (l := tables_1_6) (i := 70) (by decide +kernel))) rfl
theorem qCO_yX4_leadOf : (Jvm.Cond.code yX4_leadOf prog_6_method_57_code (2 : Nat) (Option.some Jvm.ClassFile.FieldType.int)) ∈ gw := gw_t (gw_t6 (List.mem_of_getElem? (l := tables_1_6) (i := 71) (by decide +kernel))) rfl
theorem qML_RX4_229 : (Jvm.Cond.methodLink "HedgesAndDitchesModel" (229 : Nat) yX4_noLead) ∈ gw := gw_t (gw_t6 (List.mem_of_getElem? (l := tables_1_6) (i := 72) (by decide +kernel))) rfl
theorem qIM_yX4_noLead : (Jvm.Cond.instanceMethod yX4_noLead) ∈ gw := gw_t (gw_t6 (List.mem_of_getElem? (l := tables_1_6) (i := 74) (by decide +kernel))) rfl
theorem qCO_yX4_noLead : (Jvm.Cond.code yX4_noLead prog_6_method_3_code (2 : Nat) (Option.some Jvm.ClassFile.FieldType.int)) ∈ gw := gw_t (gw_t6 (List.mem_of_getElem? (l := tables_1_6) (i := 75) (by decide +kernel))) rfl
theorem qML_RL_105 : (Jvm.Cond.methodLink "HedgesAndDitchesLaw" (105 : Nat) yX4_lanes) ∈ gw := gw_t (gw_t6 (List.mem_of_getElem? (l := tables_1_6) (i := 76) (by decide +kernel))) rfl
theorem qIM_yX4_lanes : (Jvm.Cond.instanceMethod yX4_lanes) ∈ gw := gw_t (gw_t6 (List.mem_of_getElem? (l := tables_1_6) (i := 77) (by decide +kernel))) rfl
theorem qSE_yX4_lanes : (Jvm.Cond.selects "HedgesAndDitchesModel" yX4_lanes yX4_lanes) ∈ gw := gw_t (gw_t6 (List.mem_of_getElem? (l := tables_1_6) (i := 78) (by decide +kernel))) rfl
theorem qCO_yX4_lanes : (Jvm.Cond.code yX4_lanes prog_6_method_60_code (2 : Nat) (Option.some Jvm.ClassFile.FieldType.int)) ∈ gw := gw_t (gw_t6 (List.mem_of_getElem? (l := tables_1_6) (i := 79) (by decide +kernel))) rfl
theorem qML_RL_109 : (Jvm.Cond.methodLink "HedgesAndDitchesLaw" (109 : Nat) yX4_ditch) ∈ gw := gw_t (gw_t6 (List.mem_of_getElem? (l := tables_1_6) (i := 80) (by decide +kernel))) rfl
theorem qIM_yX4_ditch : (Jvm.Cond.instanceMethod yX4_ditch) ∈ gw := gw_t (gw_t6 (List.mem_of_getElem? (l := tables_1_6) (i := 81) (by decide +kernel))) rfl
theorem qSE_yX4_ditch : (Jvm.Cond.selects "HedgesAndDitchesModel" yX4_ditch yX4_ditch) ∈ gw := gw_t (gw_t6 (List.mem_of_getElem? (l := tables_1_6) (i := 82) (by decide +kernel))) rfl
theorem qCO_yX4_ditch : (Jvm.Cond.code yX4_ditch prog_6_method_61_code (2 : Nat) (Option.some Jvm.ClassFile.FieldType.int)) ∈ gw := gw_t (gw_t6 (List.mem_of_getElem? (l := tables_1_6) (i := 83) (by decide +kernel))) rfl
theorem qML_RL_113 : (Jvm.Cond.methodLink "HedgesAndDitchesLaw" (113 : Nat) yX4_drained) ∈ gw := gw_t (gw_t6 (List.mem_of_getElem? (l := tables_1_6) (i := 84) (by decide +kernel))) rfl
theorem qIM_yX4_drained : (Jvm.Cond.instanceMethod yX4_drained) ∈ gw := gw_t (gw_t6 (List.mem_of_getElem? (l := tables_1_6) (i := 85) (by decide +kernel))) rfl
theorem qSE_yX4_drained : (Jvm.Cond.selects "HedgesAndDitchesModel" yX4_drained yX4_drained) ∈ gw := gw_t (gw_t6 (List.mem_of_getElem? (l := tables_1_6) (i := 86) (by decide +kernel))) rfl
theorem qCO_yX4_drained : (Jvm.Cond.code yX4_drained prog_6_method_62_code (1 : Nat) (Option.some Jvm.ClassFile.FieldType.int)) ∈ gw := gw_t (gw_t6 (List.mem_of_getElem? (l := tables_1_6) (i := 87) (by decide +kernel))) rfl
theorem qML_RL_117 : (Jvm.Cond.methodLink "HedgesAndDitchesLaw" (117 : Nat) yX4_thirds) ∈ gw := gw_t (gw_t6 (List.mem_of_getElem? (l := tables_1_6) (i := 88) (by decide +kernel))) rfl
theorem qML_RL_121 : (Jvm.Cond.methodLink "HedgesAndDitchesLaw" (121 : Nat) yX4_chain) ∈ gw := gw_t (gw_t6 (List.mem_of_getElem? (l := tables_1_6) (i := 89) (by decide +kernel))) rfl
theorem qIM_yX4_chain : (Jvm.Cond.instanceMethod yX4_chain) ∈ gw := gw_t (gw_t6 (List.mem_of_getElem? (l := tables_1_6) (i := 90) (by decide +kernel))) rfl
theorem qSE_yX4_chain : (Jvm.Cond.selects "HedgesAndDitchesModel" yX4_chain yX4_chain) ∈ gw := gw_t (gw_t6 (List.mem_of_getElem? (l := tables_1_6) (i := 91) (by decide +kernel))) rfl
theorem qCO_yX4_chain : (Jvm.Cond.code yX4_chain prog_6_method_64_code (2 : Nat) (Option.some Jvm.ClassFile.FieldType.int)) ∈ gw := gw_t (gw_t6 (List.mem_of_getElem? (l := tables_1_6) (i := 92) (by decide +kernel))) rfl
theorem qML_RX4_232 : (Jvm.Cond.methodLink "HedgesAndDitchesModel" (232 : Nat) yX4_chainOf) ∈ gw := gw_t (gw_t6 (List.mem_of_getElem? (l := tables_1_6) (i := 93) (by decide +kernel))) rfl
theorem qIM_yX4_chainOf : (Jvm.Cond.instanceMethod yX4_chainOf) ∈ gw := gw_t (gw_t6 (List.mem_of_getElem? (l := tables_1_6) (i := 95) (by decide +kernel))) rfl
theorem qCO_yX4_chainOf : (Jvm.Cond.code yX4_chainOf prog_6_method_65_code (6 : Nat) (Option.some Jvm.ClassFile.FieldType.int)) ∈ gw := gw_t (gw_t6 (List.mem_of_getElem? (l := tables_1_6) (i := 96) (by decide +kernel))) rfl
theorem qML_RL_185 : (Jvm.Cond.methodLink "HedgesAndDitchesLaw" (185 : Nat) yX4_best) ∈ gw := gw_t (gw_t6 (List.mem_of_getElem? (l := tables_1_6) (i := 97) (by decide +kernel))) rfl
theorem qIM_yX4_best : (Jvm.Cond.instanceMethod yX4_best) ∈ gw := gw_t (gw_t6 (List.mem_of_getElem? (l := tables_1_6) (i := 98) (by decide +kernel))) rfl
theorem qSE_yX4_best : (Jvm.Cond.selects "HedgesAndDitchesModel" yX4_best yX4_best) ∈ gw := gw_t (gw_t6 (List.mem_of_getElem? (l := tables_1_6) (i := 99) (by decide +kernel))) rfl
theorem qCO_yX4_best : (Jvm.Cond.code yX4_best prog_6_method_68_code (1 : Nat) (Option.some Jvm.ClassFile.FieldType.int)) ∈ gw := gw_t (gw_t6 (List.mem_of_getElem? (l := tables_1_6) (i := 100) (by decide +kernel))) rfl
theorem qML_RX4_235 : (Jvm.Cond.methodLink "HedgesAndDitchesModel" (235 : Nat) yX4_search) ∈ gw := gw_t (gw_t6 (List.mem_of_getElem? (l := tables_1_6) (i := 101) (by decide +kernel))) rfl
theorem qIM_yX4_search : (Jvm.Cond.instanceMethod yX4_search) ∈ gw := gw_t (gw_t6 (List.mem_of_getElem? (l := tables_1_6) (i := 103) (by decide +kernel))) rfl
theorem qCO_yX4_search : (Jvm.Cond.code yX4_search prog_6_method_67_code (5 : Nat) (Option.some Jvm.ClassFile.FieldType.int)) ∈ gw := gw_t (gw_t6 (List.mem_of_getElem? (l := tables_1_6) (i := 104) (by decide +kernel))) rfl
theorem qML_RX4_238 : (Jvm.Cond.methodLink "HedgesAndDitchesModel" (238 : Nat) yX4_takes) ∈ gw := gw_t (gw_t6 (List.mem_of_getElem? (l := tables_1_6) (i := 105) (by decide +kernel))) rfl
theorem qIM_yX4_takes : (Jvm.Cond.instanceMethod yX4_takes) ∈ gw := gw_t (gw_t6 (List.mem_of_getElem? (l := tables_1_6) (i := 107) (by decide +kernel))) rfl
theorem qCO_yX4_takes : (Jvm.Cond.code yX4_takes prog_6_method_66_code (4 : Nat) (Option.none : Option Jvm.ClassFile.FieldType)) ∈ gw := gw_t (gw_t6 (List.mem_of_getElem? (l := tables_1_6) (i := 108) (by decide +kernel))) rfl
theorem qML_RL_189 : (Jvm.Cond.methodLink "HedgesAndDitchesLaw" (189 : Nat) yX4_worth) ∈ gw := gw_t (gw_t6 (List.mem_of_getElem? (l := tables_1_6) (i := 109) (by decide +kernel))) rfl
theorem qIM_yX4_worth : (Jvm.Cond.instanceMethod yX4_worth) ∈ gw := gw_t (gw_t6 (List.mem_of_getElem? (l := tables_1_6) (i := 110) (by decide +kernel))) rfl
theorem qSE_yX4_worth : (Jvm.Cond.selects "HedgesAndDitchesModel" yX4_worth yX4_worth) ∈ gw := gw_t (gw_t6 (List.mem_of_getElem? (l := tables_1_6) (i := 111) (by decide +kernel))) rfl
theorem qCO_yX4_worth : (Jvm.Cond.code yX4_worth prog_6_method_69_code (1 : Nat) (Option.some Jvm.ClassFile.FieldType.int)) ∈ gw := gw_t (gw_t6 (List.mem_of_getElem? (l := tables_1_6) (i := 112) (by decide +kernel))) rfl
theorem qML_RL_193 : (Jvm.Cond.methodLink "HedgesAndDitchesLaw" (193 : Nat) yX4_choice) ∈ gw := gw_t (gw_t6 (List.mem_of_getElem? (l := tables_1_6) (i := 113) (by decide +kernel))) rfl
theorem qIM_yX4_choice : (Jvm.Cond.instanceMethod yX4_choice) ∈ gw := gw_t (gw_t6 (List.mem_of_getElem? (l := tables_1_6) (i := 114) (by decide +kernel))) rfl
theorem qSE_yX4_choice : (Jvm.Cond.selects "HedgesAndDitchesModel" yX4_choice yX4_choice) ∈ gw := gw_t (gw_t6 (List.mem_of_getElem? (l := tables_1_6) (i := 115) (by decide +kernel))) rfl
theorem qCO_yX4_choice : (Jvm.Cond.code yX4_choice prog_6_method_77_code (2 : Nat) (Option.some Jvm.ClassFile.FieldType.int)) ∈ gw := gw_t (gw_t6 (List.mem_of_getElem? (l := tables_1_6) (i := 116) (by decide +kernel))) rfl
theorem qML_RL_197 : (Jvm.Cond.methodLink "HedgesAndDitchesLaw" (197 : Nat) yX4_played) ∈ gw := gw_t (gw_t6 (List.mem_of_getElem? (l := tables_1_6) (i := 117) (by decide +kernel))) rfl
theorem qIM_yX4_played : (Jvm.Cond.instanceMethod yX4_played) ∈ gw := gw_t (gw_t6 (List.mem_of_getElem? (l := tables_1_6) (i := 118) (by decide +kernel))) rfl
theorem qSE_yX4_played : (Jvm.Cond.selects "HedgesAndDitchesModel" yX4_played yX4_played) ∈ gw := gw_t (gw_t6 (List.mem_of_getElem? (l := tables_1_6) (i := 119) (by decide +kernel))) rfl
theorem qCO_yX4_played : (Jvm.Cond.code yX4_played prog_6_method_80_code (8 : Nat) (Option.some Jvm.ClassFile.FieldType.int)) ∈ gw := gw_t (gw_t6 (List.mem_of_getElem? (l := tables_1_6) (i := 120) (by decide +kernel))) rfl
theorem qML_RX4_268 : (Jvm.Cond.methodLink "HedgesAndDitchesModel" (268 : Nat) yX4_plays) ∈ gw := gw_t (gw_t6 (List.mem_of_getElem? (l := tables_1_6) (i := 121) (by decide +kernel))) rfl
theorem qIM_yX4_plays : (Jvm.Cond.instanceMethod yX4_plays) ∈ gw := gw_t (gw_t6 (List.mem_of_getElem? (l := tables_1_6) (i := 123) (by decide +kernel))) rfl
theorem qCO_yX4_plays : (Jvm.Cond.code yX4_plays prog_6_method_78_code (6 : Nat) (Option.some Jvm.ClassFile.FieldType.int)) ∈ gw := gw_t (gw_t6 (List.mem_of_getElem? (l := tables_1_6) (i := 124) (by decide +kernel))) rfl
theorem qML_RL_213 : (Jvm.Cond.methodLink "HedgesAndDitchesLaw" (213 : Nat) yX4_alike) ∈ gw := gw_t (gw_t6 (List.mem_of_getElem? (l := tables_1_6) (i := 125) (by decide +kernel))) rfl
theorem qIM_yX4_alike : (Jvm.Cond.instanceMethod yX4_alike) ∈ gw := gw_t (gw_t6 (List.mem_of_getElem? (l := tables_1_6) (i := 126) (by decide +kernel))) rfl
theorem qSE_yX4_alike : (Jvm.Cond.selects "HedgesAndDitchesModel" yX4_alike yX4_alike) ∈ gw := gw_t (gw_t6 (List.mem_of_getElem? (l := tables_1_6) (i := 127) (by decide +kernel))) rfl
theorem qCO_yX4_alike : (Jvm.Cond.code yX4_alike prog_6_method_84_code (2 : Nat) (Option.some Jvm.ClassFile.FieldType.int)) ∈ gw := gw_t (gw_t6 (List.mem_of_getElem? (l := tables_1_6) (i := 128) (by decide +kernel))) rfl
theorem qML_RX4_277 : (Jvm.Cond.methodLink "HedgesAndDitchesModel" (277 : Nat) yX4_isAlike) ∈ gw := gw_t (gw_t6 (List.mem_of_getElem? (l := tables_1_6) (i := 129) (by decide +kernel))) rfl
theorem qIM_yX4_isAlike : (Jvm.Cond.instanceMethod yX4_isAlike) ∈ gw := gw_t (gw_t6 (List.mem_of_getElem? (l := tables_1_6) (i := 131) (by decide +kernel))) rfl
theorem qCO_yX4_isAlike : (Jvm.Cond.code yX4_isAlike prog_6_method_83_code (5 : Nat) (Option.some Jvm.ClassFile.FieldType.boolean)) ∈ gw := gw_t (gw_t6 (List.mem_of_getElem? (l := tables_1_6) (i := 132) (by decide +kernel))) rfl
theorem qML_RX4_271 : (Jvm.Cond.methodLink "HedgesAndDitchesModel" (271 : Nat) yX4_turned) ∈ gw := gw_t (gw_t6 (List.mem_of_getElem? (l := tables_1_6) (i := 133) (by decide +kernel))) rfl
theorem qIM_yX4_turned : (Jvm.Cond.instanceMethod yX4_turned) ∈ gw := gw_t (gw_t6 (List.mem_of_getElem? (l := tables_1_6) (i := 135) (by decide +kernel))) rfl
theorem qCO_yX4_turned : (Jvm.Cond.code yX4_turned prog_6_method_81_code (5 : Nat) (Option.some Jvm.ClassFile.FieldType.int)) ∈ gw := gw_t (gw_t6 (List.mem_of_getElem? (l := tables_1_6) (i := 136) (by decide +kernel))) rfl
theorem qML_RX4_274 : (Jvm.Cond.methodLink "HedgesAndDitchesModel" (274 : Nat) yX4_turnedSide) ∈ gw := gw_t (gw_t6 (List.mem_of_getElem? (l := tables_1_6) (i := 137) (by decide +kernel))) rfl
theorem qSM_yX4_turnedSide : (Jvm.Cond.static yX4_turnedSide) ∈ gw := gw_t (gw_t6 (List.mem_of_getElem? (l := tables_1_6) (i := 138) (by decide +kernel))) rfl
theorem qCO_yX4_turnedSide : (Jvm.Cond.code yX4_turnedSide prog_6_method_82_code (3 : Nat) (Option.some Jvm.ClassFile.FieldType.int)) ∈ gw := gw_t (gw_t6 (List.mem_of_getElem? (l := tables_1_6) (i := 139) (by decide +kernel))) rfl
theorem qML_RL_169 : (Jvm.Cond.methodLink "HedgesAndDitchesLaw" (169 : Nat) yX4_leader) ∈ gw := gw_t (gw_t6 (List.mem_of_getElem? (l := tables_1_6) (i := 140) (by decide +kernel))) rfl
theorem qIM_yX4_leader : (Jvm.Cond.instanceMethod yX4_leader) ∈ gw := gw_t (gw_t6 (List.mem_of_getElem? (l := tables_1_6) (i := 141) (by decide +kernel))) rfl
theorem qSE_yX4_leader : (Jvm.Cond.selects "HedgesAndDitchesModel" yX4_leader yX4_leader) ∈ gw := gw_t (gw_t6 (List.mem_of_getElem? (l := tables_1_6) (i := 142) (by decide +kernel))) rfl
theorem qCO_yX4_leader : (Jvm.Cond.code yX4_leader prog_6_method_85_code (2 : Nat) (Option.some Jvm.ClassFile.FieldType.int)) ∈ gw := gw_t (gw_t6 (List.mem_of_getElem? (l := tables_1_6) (i := 143) (by decide +kernel))) rfl
theorem qML_RL_125 : (Jvm.Cond.methodLink "HedgesAndDitchesLaw" (125 : Nat) yX4_longest) ∈ gw := gw_t (gw_t6 (List.mem_of_getElem? (l := tables_1_6) (i := 144) (by decide +kernel))) rfl
theorem qIM_yX4_longest : (Jvm.Cond.instanceMethod yX4_longest) ∈ gw := gw_t (gw_t6 (List.mem_of_getElem? (l := tables_1_6) (i := 145) (by decide +kernel))) rfl
theorem qSE_yX4_longest : (Jvm.Cond.selects "HedgesAndDitchesModel" yX4_longest yX4_longest) ∈ gw := gw_t (gw_t6 (List.mem_of_getElem? (l := tables_1_6) (i := 146) (by decide +kernel))) rfl
theorem qCO_yX4_longest : (Jvm.Cond.code yX4_longest prog_6_method_86_code (3 : Nat) (Option.some Jvm.ClassFile.FieldType.int)) ∈ gw := gw_t (gw_t6 (List.mem_of_getElem? (l := tables_1_6) (i := 147) (by decide +kernel))) rfl
theorem qML_RL_129 : (Jvm.Cond.methodLink "HedgesAndDitchesLaw" (129 : Nat) yX4_shuts_) ∈ gw := gw_t (gw_t6 (List.mem_of_getElem? (l := tables_1_6) (i := 148) (by decide +kernel))) rfl
theorem qIM_yX4_shuts_ : (Jvm.Cond.instanceMethod yX4_shuts_) ∈ gw := gw_t (gw_t6 (List.mem_of_getElem? (l := tables_1_6) (i := 149) (by decide +kernel))) rfl
theorem qSE_yX4_shuts_ : (Jvm.Cond.selects "HedgesAndDitchesModel" yX4_shuts_ yX4_shuts_) ∈ gw := gw_t (gw_t6 (List.mem_of_getElem? (l := tables_1_6) (i := 150) (by decide +kernel))) rfl
theorem qCO_yX4_shuts_ : (Jvm.Cond.code yX4_shuts_ prog_6_method_87_code (2 : Nat) (Option.some Jvm.ClassFile.FieldType.int)) ∈ gw := gw_t (gw_t6 (List.mem_of_getElem? (l := tables_1_6) (i := 151) (by decide +kernel))) rfl
theorem qML_RX4_280 : (Jvm.Cond.methodLink "HedgesAndDitchesModel" (280 : Nat) yX4_withHedges) ∈ gw := gw_t (gw_t6 (List.mem_of_getElem? (l := tables_1_6) (i := 152) (by decide +kernel))) rfl
theorem qIM_yX4_withHedges : (Jvm.Cond.instanceMethod yX4_withHedges) ∈ gw := gw_t (gw_t6 (List.mem_of_getElem? (l := tables_1_6) (i := 154) (by decide +kernel))) rfl
theorem qCO_yX4_withHedges : (Jvm.Cond.code yX4_withHedges prog_6_method_88_code (5 : Nat) (Option.some Jvm.ClassFile.FieldType.int)) ∈ gw := gw_t (gw_t6 (List.mem_of_getElem? (l := tables_1_6) (i := 155) (by decide +kernel))) rfl
theorem qML_RL_157 : (Jvm.Cond.methodLink "HedgesAndDitchesLaw" (157 : Nat) yX4_gives) ∈ gw := gw_t (gw_t6 (List.mem_of_getElem? (l := tables_1_6) (i := 156) (by decide +kernel))) rfl
theorem qIM_yX4_gives : (Jvm.Cond.instanceMethod yX4_gives) ∈ gw := gw_t (gw_t6 (List.mem_of_getElem? (l := tables_1_6) (i := 157) (by decide +kernel))) rfl
theorem qSE_yX4_gives : (Jvm.Cond.selects "HedgesAndDitchesModel" yX4_gives yX4_gives) ∈ gw := gw_t (gw_t6 (List.mem_of_getElem? (l := tables_1_6) (i := 158) (by decide +kernel))) rfl
theorem qCO_yX4_gives : (Jvm.Cond.code yX4_gives prog_6_method_89_code (2 : Nat) (Option.some Jvm.ClassFile.FieldType.int)) ∈ gw := gw_t (gw_t6 (List.mem_of_getElem? (l := tables_1_6) (i := 159) (by decide +kernel))) rfl
theorem qML_RL_133 : (Jvm.Cond.methodLink "HedgesAndDitchesLaw" (133 : Nat) yX4_calm) ∈ gw := gw_t (gw_t6 (List.mem_of_getElem? (l := tables_1_6) (i := 160) (by decide +kernel))) rfl
theorem qIM_yX4_calm : (Jvm.Cond.instanceMethod yX4_calm) ∈ gw := gw_t (gw_t6 (List.mem_of_getElem? (l := tables_1_6) (i := 161) (by decide +kernel))) rfl
theorem qSE_yX4_calm : (Jvm.Cond.selects "HedgesAndDitchesModel" yX4_calm yX4_calm) ∈ gw := gw_t (gw_t6 (List.mem_of_getElem? (l := tables_1_6) (i := 162) (by decide +kernel))) rfl
theorem qCO_yX4_calm : (Jvm.Cond.code yX4_calm prog_6_method_90_code (3 : Nat) (Option.some Jvm.ClassFile.FieldType.int)) ∈ gw := gw_t (gw_t6 (List.mem_of_getElem? (l := tables_1_6) (i := 163) (by decide +kernel))) rfl
theorem qML_RL_137 : (Jvm.Cond.methodLink "HedgesAndDitchesLaw" (137 : Nat) yX4_part) ∈ gw := gw_t (gw_t6 (List.mem_of_getElem? (l := tables_1_6) (i := 164) (by decide +kernel))) rfl
theorem qIM_yX4_part : (Jvm.Cond.instanceMethod yX4_part) ∈ gw := gw_t (gw_t6 (List.mem_of_getElem? (l := tables_1_6) (i := 165) (by decide +kernel))) rfl
theorem qSE_yX4_part : (Jvm.Cond.selects "HedgesAndDitchesModel" yX4_part yX4_part) ∈ gw := gw_t (gw_t6 (List.mem_of_getElem? (l := tables_1_6) (i := 166) (by decide +kernel))) rfl
theorem qCO_yX4_part : (Jvm.Cond.code yX4_part prog_6_method_92_code (2 : Nat) (Option.some Jvm.ClassFile.FieldType.int)) ∈ gw := gw_t (gw_t6 (List.mem_of_getElem? (l := tables_1_6) (i := 167) (by decide +kernel))) rfl
theorem qML_RX4_283 : (Jvm.Cond.methodLink "HedgesAndDitchesModel" (283 : Nat) yX4_partOf) ∈ gw := gw_t (gw_t6 (List.mem_of_getElem? (l := tables_1_6) (i := 168) (by decide +kernel))) rfl
theorem qIM_yX4_partOf : (Jvm.Cond.instanceMethod yX4_partOf) ∈ gw := gw_t (gw_t6 (List.mem_of_getElem? (l := tables_1_6) (i := 170) (by decide +kernel))) rfl
theorem qCO_yX4_partOf : (Jvm.Cond.code yX4_partOf prog_6_method_91_code (6 : Nat) (Option.some Jvm.ClassFile.FieldType.int)) ∈ gw := gw_t (gw_t6 (List.mem_of_getElem? (l := tables_1_6) (i := 171) (by decide +kernel))) rfl
theorem qML_RL_141 : (Jvm.Cond.methodLink "HedgesAndDitchesLaw" (141 : Nat) yX4_parts) ∈ gw := gw_t (gw_t6 (List.mem_of_getElem? (l := tables_1_6) (i := 172) (by decide +kernel))) rfl
theorem qIM_yX4_parts : (Jvm.Cond.instanceMethod yX4_parts) ∈ gw := gw_t (gw_t6 (List.mem_of_getElem? (l := tables_1_6) (i := 173) (by decide +kernel))) rfl
theorem qSE_yX4_parts : (Jvm.Cond.selects "HedgesAndDitchesModel" yX4_parts yX4_parts) ∈ gw := gw_t (gw_t6 (List.mem_of_getElem? (l := tables_1_6) (i := 174) (by decide +kernel))) rfl
theorem qCO_yX4_parts : (Jvm.Cond.code yX4_parts prog_6_method_93_code (3 : Nat) (Option.some Jvm.ClassFile.FieldType.int)) ∈ gw := gw_t (gw_t6 (List.mem_of_getElem? (l := tables_1_6) (i := 175) (by decide +kernel))) rfl
theorem qML_RX4_286 : (Jvm.Cond.methodLink "HedgesAndDitchesModel" (286 : Nat) yJ6_numberOfTrailingZeros_0f7a4) ∈ gw := gw_t (gw_t6 (List.mem_of_getElem? (l := tables_1_6) (i := 176) (by decide +kernel))) rfl
theorem qSM_yJ6_numberOfTrailingZeros_0f7a4 : (Jvm.Cond.static yJ6_numberOfTrailingZeros_0f7a4) ∈ gw := gw_t (gw_t6 (List.mem_of_getElem? (l := tables_1_6) (i := 177) (by decide +kernel))) rfl
theorem qCO_yJ6_numberOfTrailingZeros_0f7a4 : (Jvm.Cond.code yJ6_numberOfTrailingZeros_0f7a4 prog_7_method_48_code (2 : Nat) (Option.some Jvm.ClassFile.FieldType.int)) ∈ gw := gw_t (gw_t6 (List.mem_of_getElem? (l := tables_1_6) (i := 178) (by decide +kernel))) rfl
theorem qCT_RJ6_264 : (Jvm.Cond.constant "java/lang/Integer" (264 : Nat) (65536 : Int32)) ∈ gw := gw_t (gw_t6 (List.mem_of_getElem? (l := tables_1_6) (i := 179) (by decide +kernel))) rfl
theorem qML_RL_145 : (Jvm.Cond.methodLink "HedgesAndDitchesLaw" (145 : Nat) yX4_ditches) ∈ gw := gw_t (gw_t6 (List.mem_of_getElem? (l := tables_1_6) (i := 180) (by decide +kernel))) rfl
theorem qIM_yX4_ditches : (Jvm.Cond.instanceMethod yX4_ditches) ∈ gw := gw_t (gw_t6 (List.mem_of_getElem? (l := tables_1_6) (i := 181) (by decide +kernel))) rfl
theorem qSE_yX4_ditches : (Jvm.Cond.selects "HedgesAndDitchesModel" yX4_ditches yX4_ditches) ∈ gw := gw_t (gw_t6 (List.mem_of_getElem? (l := tables_1_6) (i := 182) (by decide +kernel))) rfl
theorem qCO_yX4_ditches : (Jvm.Cond.code yX4_ditches prog_6_method_94_code (3 : Nat) (Option.some Jvm.ClassFile.FieldType.int)) ∈ gw := gw_t (gw_t6 (List.mem_of_getElem? (l := tables_1_6) (i := 183) (by decide +kernel))) rfl
theorem qML_RL_149 : (Jvm.Cond.methodLink "HedgesAndDitchesLaw" (149 : Nat) yX4_owned) ∈ gw := gw_t (gw_t6 (List.mem_of_getElem? (l := tables_1_6) (i := 184) (by decide +kernel))) rfl
theorem qIM_yX4_owned : (Jvm.Cond.instanceMethod yX4_owned) ∈ gw := gw_t (gw_t6 (List.mem_of_getElem? (l := tables_1_6) (i := 185) (by decide +kernel))) rfl
theorem qSE_yX4_owned : (Jvm.Cond.selects "HedgesAndDitchesModel" yX4_owned yX4_owned) ∈ gw := gw_t (gw_t6 (List.mem_of_getElem? (l := tables_1_6) (i := 186) (by decide +kernel))) rfl
theorem qCO_yX4_owned : (Jvm.Cond.code yX4_owned prog_6_method_95_code (4 : Nat) (Option.some Jvm.ClassFile.FieldType.int)) ∈ gw := gw_t (gw_t6 (List.mem_of_getElem? (l := tables_1_6) (i := 187) (by decide +kernel))) rfl
theorem qML_RL_153 : (Jvm.Cond.methodLink "HedgesAndDitchesLaw" (153 : Nat) yX4_coloured) ∈ gw := gw_t (gw_t6 (List.mem_of_getElem? (l := tables_1_6) (i := 188) (by decide +kernel))) rfl
theorem qIM_yX4_coloured : (Jvm.Cond.instanceMethod yX4_coloured) ∈ gw := gw_t (gw_t6 (List.mem_of_getElem? (l := tables_1_6) (i := 189) (by decide +kernel))) rfl
theorem qSE_yX4_coloured : (Jvm.Cond.selects "HedgesAndDitchesModel" yX4_coloured yX4_coloured) ∈ gw := gw_t (gw_t6 (List.mem_of_getElem? (l := tables_1_6) (i := 190) (by decide +kernel))) rfl
theorem qCO_yX4_coloured : (Jvm.Cond.code yX4_coloured prog_6_method_96_code (5 : Nat) (Option.some Jvm.ClassFile.FieldType.int)) ∈ gw := gw_t (gw_t6 (List.mem_of_getElem? (l := tables_1_6) (i := 191) (by decide +kernel))) rfl
theorem qML_RL_161 : (Jvm.Cond.methodLink "HedgesAndDitchesLaw" (161 : Nat) yX4_gaps) ∈ gw := gw_t (gw_t6 (List.mem_of_getElem? (l := tables_1_6) (i := 192) (by decide +kernel))) rfl
theorem qIM_yX4_gaps : (Jvm.Cond.instanceMethod yX4_gaps) ∈ gw := gw_t (gw_t6 (List.mem_of_getElem? (l := tables_1_6) (i := 193) (by decide +kernel))) rfl
theorem qSE_yX4_gaps : (Jvm.Cond.selects "HedgesAndDitchesModel" yX4_gaps yX4_gaps) ∈ gw := gw_t (gw_t6 (List.mem_of_getElem? (l := tables_1_6) (i := 194) (by decide +kernel))) rfl
theorem qCO_yX4_gaps : (Jvm.Cond.code yX4_gaps prog_6_method_97_code (3 : Nat) (Option.some Jvm.ClassFile.FieldType.int)) ∈ gw := gw_t (gw_t6 (List.mem_of_getElem? (l := tables_1_6) (i := 195) (by decide +kernel))) rfl
theorem qML_RL_165 : (Jvm.Cond.methodLink "HedgesAndDitchesLaw" (165 : Nat) yX4_rim) ∈ gw := gw_t (gw_t6 (List.mem_of_getElem? (l := tables_1_6) (i := 196) (by decide +kernel))) rfl
theorem qIM_yX4_rim : (Jvm.Cond.instanceMethod yX4_rim) ∈ gw := gw_t (gw_t6 (List.mem_of_getElem? (l := tables_1_6) (i := 197) (by decide +kernel))) rfl
theorem qSE_yX4_rim : (Jvm.Cond.selects "HedgesAndDitchesModel" yX4_rim yX4_rim) ∈ gw := gw_t (gw_t6 (List.mem_of_getElem? (l := tables_1_6) (i := 198) (by decide +kernel))) rfl
theorem qCO_yX4_rim : (Jvm.Cond.code yX4_rim prog_6_method_98_code (3 : Nat) (Option.some Jvm.ClassFile.FieldType.int)) ∈ gw := gw_t (gw_t6 (List.mem_of_getElem? (l := tables_1_6) (i := 199) (by decide +kernel))) rfl
theorem qML_RL_173 : (Jvm.Cond.methodLink "HedgesAndDitchesLaw" (173 : Nat) yX4_bare) ∈ gw := gw_t (gw_t6 (List.mem_of_getElem? (l := tables_1_6) (i := 200) (by decide +kernel))) rfl
theorem qIM_yX4_bare : (Jvm.Cond.instanceMethod yX4_bare) ∈ gw := gw_t (gw_t6 (List.mem_of_getElem? (l := tables_1_6) (i := 201) (by decide +kernel))) rfl
theorem qSE_yX4_bare : (Jvm.Cond.selects "HedgesAndDitchesModel" yX4_bare yX4_bare) ∈ gw := gw_t (gw_t6 (List.mem_of_getElem? (l := tables_1_6) (i := 202) (by decide +kernel))) rfl
theorem qCO_yX4_bare : (Jvm.Cond.code yX4_bare prog_6_method_99_code (3 : Nat) (Option.some Jvm.ClassFile.FieldType.int)) ∈ gw := gw_t (gw_t6 (List.mem_of_getElem? (l := tables_1_6) (i := 203) (by decide +kernel))) rfl
theorem qML_RL_177 : (Jvm.Cond.methodLink "HedgesAndDitchesLaw" (177 : Nat) yX4_soft) ∈ gw := gw_t (gw_t6 (List.mem_of_getElem? (l := tables_1_6) (i := 204) (by decide +kernel))) rfl
theorem qIM_yX4_soft : (Jvm.Cond.instanceMethod yX4_soft) ∈ gw := gw_t (gw_t6 (List.mem_of_getElem? (l := tables_1_6) (i := 205) (by decide +kernel))) rfl
theorem qSE_yX4_soft : (Jvm.Cond.selects "HedgesAndDitchesModel" yX4_soft yX4_soft) ∈ gw := gw_t (gw_t6 (List.mem_of_getElem? (l := tables_1_6) (i := 206) (by decide +kernel))) rfl
theorem qCO_yX4_soft : (Jvm.Cond.code yX4_soft prog_6_method_100_code (3 : Nat) (Option.some Jvm.ClassFile.FieldType.int)) ∈ gw := gw_t (gw_t6 (List.mem_of_getElem? (l := tables_1_6) (i := 207) (by decide +kernel))) rfl
theorem qML_RL_181 : (Jvm.Cond.methodLink "HedgesAndDitchesLaw" (181 : Nat) yX4_after) ∈ gw := gw_t (gw_t6 (List.mem_of_getElem? (l := tables_1_6) (i := 208) (by decide +kernel))) rfl
theorem qIM_yX4_after : (Jvm.Cond.instanceMethod yX4_after) ∈ gw := gw_t (gw_t6 (List.mem_of_getElem? (l := tables_1_6) (i := 209) (by decide +kernel))) rfl
theorem qSE_yX4_after : (Jvm.Cond.selects "HedgesAndDitchesModel" yX4_after yX4_after) ∈ gw := gw_t (gw_t6 (List.mem_of_getElem? (l := tables_1_6) (i := 210) (by decide +kernel))) rfl
theorem qCO_yX4_after : (Jvm.Cond.code yX4_after prog_6_method_101_code (3 : Nat) (Option.some Jvm.ClassFile.FieldType.int)) ∈ gw := gw_t (gw_t6 (List.mem_of_getElem? (l := tables_1_6) (i := 211) (by decide +kernel))) rfl
theorem qML_RL_201 : (Jvm.Cond.methodLink "HedgesAndDitchesLaw" (201 : Nat) yX4_wins) ∈ gw := gw_t (gw_t6 (List.mem_of_getElem? (l := tables_1_6) (i := 212) (by decide +kernel))) rfl
theorem qIM_yX4_wins : (Jvm.Cond.instanceMethod yX4_wins) ∈ gw := gw_t (gw_t6 (List.mem_of_getElem? (l := tables_1_6) (i := 213) (by decide +kernel))) rfl
theorem qSE_yX4_wins : (Jvm.Cond.selects "HedgesAndDitchesModel" yX4_wins yX4_wins) ∈ gw := gw_t (gw_t6 (List.mem_of_getElem? (l := tables_1_6) (i := 214) (by decide +kernel))) rfl
theorem qCO_yX4_wins : (Jvm.Cond.code yX4_wins prog_6_method_103_code (2 : Nat) (Option.some Jvm.ClassFile.FieldType.int)) ∈ gw := gw_t (gw_t6 (List.mem_of_getElem? (l := tables_1_6) (i := 215) (by decide +kernel))) rfl
theorem qML_RX4_294 : (Jvm.Cond.methodLink "HedgesAndDitchesModel" (294 : Nat) yX4_winsOf) ∈ gw := gw_t (gw_t6 (List.mem_of_getElem? (l := tables_1_6) (i := 216) (by decide +kernel))) rfl
theorem qIM_yX4_winsOf : (Jvm.Cond.instanceMethod yX4_winsOf) ∈ gw := gw_t (gw_t6 (List.mem_of_getElem? (l := tables_1_6) (i := 218) (by decide +kernel))) rfl
theorem qCO_yX4_winsOf : (Jvm.Cond.code yX4_winsOf prog_6_method_102_code (5 : Nat) (Option.some Jvm.ClassFile.FieldType.int)) ∈ gw := gw_t (gw_t6 (List.mem_of_getElem? (l := tables_1_6) (i := 219) (by decide +kernel))) rfl
theorem qML_RX4_291 : (Jvm.Cond.methodLink "HedgesAndDitchesModel" (291 : Nat) yX4_leadPlayed) ∈ gw := gw_t (gw_t6 (List.mem_of_getElem? (l := tables_1_6) (i := 220) (by decide +kernel))) rfl
theorem qIM_yX4_leadPlayed : (Jvm.Cond.instanceMethod yX4_leadPlayed) ∈ gw := gw_t (gw_t6 (List.mem_of_getElem? (l := tables_1_6) (i := 222) (by decide +kernel))) rfl
theorem qCO_yX4_leadPlayed : (Jvm.Cond.code yX4_leadPlayed prog_6_method_79_code (4 : Nat) (Option.some Jvm.ClassFile.FieldType.int)) ∈ gw := gw_t (gw_t6 (List.mem_of_getElem? (l := tables_1_6) (i := 223) (by decide +kernel))) rfl
theorem qML_RL_205 : (Jvm.Cond.methodLink "HedgesAndDitchesLaw" (205 : Nat) yX4_champion) ∈ gw := gw_t (gw_t6 (List.mem_of_getElem? (l := tables_1_6) (i := 224) (by decide +kernel))) rfl
theorem qIM_yX4_champion : (Jvm.Cond.instanceMethod yX4_champion) ∈ gw := gw_t (gw_t6 (List.mem_of_getElem? (l := tables_1_6) (i := 225) (by decide +kernel))) rfl
theorem qSE_yX4_champion : (Jvm.Cond.selects "HedgesAndDitchesModel" yX4_champion yX4_champion) ∈ gw := gw_t (gw_t6 (List.mem_of_getElem? (l := tables_1_6) (i := 226) (by decide +kernel))) rfl
theorem qCO_yX4_champion : (Jvm.Cond.code yX4_champion prog_6_method_104_code (3 : Nat) (Option.some Jvm.ClassFile.FieldType.int)) ∈ gw := gw_t (gw_t6 (List.mem_of_getElem? (l := tables_1_6) (i := 227) (by decide +kernel))) rfl
theorem qML_RL_209 : (Jvm.Cond.methodLink "HedgesAndDitchesLaw" (209 : Nat) yX4_likenesses) ∈ gw := gw_t (gw_t6 (List.mem_of_getElem? (l := tables_1_6) (i := 228) (by decide +kernel))) rfl
theorem qIM_yX4_likenesses : (Jvm.Cond.instanceMethod yX4_likenesses) ∈ gw := gw_t (gw_t6 (List.mem_of_getElem? (l := tables_1_6) (i := 229) (by decide +kernel))) rfl
theorem qSE_yX4_likenesses : (Jvm.Cond.selects "HedgesAndDitchesModel" yX4_likenesses yX4_likenesses) ∈ gw := gw_t (gw_t6 (List.mem_of_getElem? (l := tables_1_6) (i := 230) (by decide +kernel))) rfl
theorem qCO_yX4_likenesses : (Jvm.Cond.code yX4_likenesses prog_6_method_105_code (3 : Nat) (Option.some Jvm.ClassFile.FieldType.int)) ∈ gw := gw_t (gw_t6 (List.mem_of_getElem? (l := tables_1_6) (i := 231) (by decide +kernel))) rfl
theorem qML_RL_217 : (Jvm.Cond.methodLink "HedgesAndDitchesLaw" (217 : Nat) yX4_judge) ∈ gw := gw_t (gw_t6 (List.mem_of_getElem? (l := tables_1_6) (i := 232) (by decide +kernel))) rfl
theorem qIM_yX4_judge : (Jvm.Cond.instanceMethod yX4_judge) ∈ gw := gw_t (gw_t6 (List.mem_of_getElem? (l := tables_1_6) (i := 233) (by decide +kernel))) rfl
theorem qSE_yX4_judge : (Jvm.Cond.selects "HedgesAndDitchesModel" yX4_judge yX4_judge) ∈ gw := gw_t (gw_t6 (List.mem_of_getElem? (l := tables_1_6) (i := 234) (by decide +kernel))) rfl
theorem qCO_yX4_judge : (Jvm.Cond.code yX4_judge prog_6_method_109_code (5 : Nat) (Option.some Jvm.ClassFile.FieldType.int)) ∈ gw := gw_t (gw_t6 (List.mem_of_getElem? (l := tables_1_6) (i := 235) (by decide +kernel))) rfl
theorem qML_RX4_300 : (Jvm.Cond.methodLink "HedgesAndDitchesModel" (300 : Nat) yX4_noGame) ∈ gw := gw_t (gw_t6 (List.mem_of_getElem? (l := tables_1_6) (i := 236) (by decide +kernel))) rfl
theorem qIM_yX4_noGame : (Jvm.Cond.instanceMethod yX4_noGame) ∈ gw := gw_t (gw_t6 (List.mem_of_getElem? (l := tables_1_6) (i := 238) (by decide +kernel))) rfl
theorem qCO_yX4_noGame : (Jvm.Cond.code yX4_noGame prog_6_method_107_code (3 : Nat) (Option.some Jvm.ClassFile.FieldType.int)) ∈ gw := gw_t (gw_t6 (List.mem_of_getElem? (l := tables_1_6) (i := 239) (by decide +kernel))) rfl
theorem qML_RX4_303 : (Jvm.Cond.methodLink "HedgesAndDitchesModel" (303 : Nat) yX4_lived) ∈ gw := gw_t (gw_t7 (List.mem_of_getElem? (l := tables_1_7) (i := 0) (by decide +kernel))) rfl
theorem qIM_yX4_lived : (Jvm.Cond.instanceMethod yX4_lived) ∈ gw := gw_t (gw_t7 (List.mem_of_getElem? (l := tables_1_7) (i := 2) (by decide +kernel))) rfl
theorem qCO_yX4_lived : (Jvm.Cond.code yX4_lived prog_6_method_108_code (5 : Nat) (Option.some Jvm.ClassFile.FieldType.int)) ∈ gw := gw_t (gw_t7 (List.mem_of_getElem? (l := tables_1_7) (i := 3) (by decide +kernel))) rfl
theorem qML_RX4_297 : (Jvm.Cond.methodLink "HedgesAndDitchesModel" (297 : Nat) yX4_toldAt) ∈ gw := gw_t (gw_t7 (List.mem_of_getElem? (l := tables_1_7) (i := 4) (by decide +kernel))) rfl
theorem qIM_yX4_toldAt : (Jvm.Cond.instanceMethod yX4_toldAt) ∈ gw := gw_t (gw_t7 (List.mem_of_getElem? (l := tables_1_7) (i := 6) (by decide +kernel))) rfl
theorem qCO_yX4_toldAt : (Jvm.Cond.code yX4_toldAt prog_6_method_106_code (5 : Nat) (Option.some Jvm.ClassFile.FieldType.int)) ∈ gw := gw_t (gw_t7 (List.mem_of_getElem? (l := tables_1_7) (i := 7) (by decide +kernel))) rfl
theorem qML_RL_221 : (Jvm.Cond.methodLink "HedgesAndDitchesLaw" (221 : Nat) yX4_behind) ∈ gw := gw_t (gw_t7 (List.mem_of_getElem? (l := tables_1_7) (i := 8) (by decide +kernel))) rfl
theorem qIM_yX4_behind : (Jvm.Cond.instanceMethod yX4_behind) ∈ gw := gw_t (gw_t7 (List.mem_of_getElem? (l := tables_1_7) (i := 9) (by decide +kernel))) rfl
theorem qSE_yX4_behind : (Jvm.Cond.selects "HedgesAndDitchesModel" yX4_behind yX4_behind) ∈ gw := gw_t (gw_t7 (List.mem_of_getElem? (l := tables_1_7) (i := 10) (by decide +kernel))) rfl
theorem qCO_yX4_behind : (Jvm.Cond.code yX4_behind prog_6_method_110_code (6 : Nat) (Option.some Jvm.ClassFile.FieldType.int)) ∈ gw := gw_t (gw_t7 (List.mem_of_getElem? (l := tables_1_7) (i := 11) (by decide +kernel))) rfl
theorem qML_RL_225 : (Jvm.Cond.methodLink "HedgesAndDitchesLaw" (225 : Nat) yX4_done) ∈ gw := gw_t (gw_t7 (List.mem_of_getElem? (l := tables_1_7) (i := 12) (by decide +kernel))) rfl
theorem qIM_yX4_done : (Jvm.Cond.instanceMethod yX4_done) ∈ gw := gw_t (gw_t7 (List.mem_of_getElem? (l := tables_1_7) (i := 13) (by decide +kernel))) rfl
theorem qSE_yX4_done : (Jvm.Cond.selects "HedgesAndDitchesModel" yX4_done yX4_done) ∈ gw := gw_t (gw_t7 (List.mem_of_getElem? (l := tables_1_7) (i := 14) (by decide +kernel))) rfl
theorem qCO_yX4_done : (Jvm.Cond.code yX4_done prog_6_method_111_code (4 : Nat) (Option.some Jvm.ClassFile.FieldType.int)) ∈ gw := gw_t (gw_t7 (List.mem_of_getElem? (l := tables_1_7) (i := 15) (by decide +kernel))) rfl
theorem qML_RL_229 : (Jvm.Cond.methodLink "HedgesAndDitchesLaw" (229 : Nat) yX4_move) ∈ gw := gw_t (gw_t7 (List.mem_of_getElem? (l := tables_1_7) (i := 16) (by decide +kernel))) rfl
theorem qIM_yX4_move : (Jvm.Cond.instanceMethod yX4_move) ∈ gw := gw_t (gw_t7 (List.mem_of_getElem? (l := tables_1_7) (i := 17) (by decide +kernel))) rfl
theorem qSE_yX4_move : (Jvm.Cond.selects "HedgesAndDitchesModel" yX4_move yX4_move) ∈ gw := gw_t (gw_t7 (List.mem_of_getElem? (l := tables_1_7) (i := 18) (by decide +kernel))) rfl
theorem qCO_yX4_move : (Jvm.Cond.code yX4_move prog_6_method_112_code (2 : Nat) (Option.some Jvm.ClassFile.FieldType.int)) ∈ gw := gw_t (gw_t7 (List.mem_of_getElem? (l := tables_1_7) (i := 19) (by decide +kernel))) rfl
theorem qML_RL_233 : (Jvm.Cond.methodLink "HedgesAndDitchesLaw" (233 : Nat) yX4_goes) ∈ gw := gw_t (gw_t7 (List.mem_of_getElem? (l := tables_1_7) (i := 20) (by decide +kernel))) rfl
theorem qIM_yX4_goes : (Jvm.Cond.instanceMethod yX4_goes) ∈ gw := gw_t (gw_t7 (List.mem_of_getElem? (l := tables_1_7) (i := 21) (by decide +kernel))) rfl
theorem qSE_yX4_goes : (Jvm.Cond.selects "HedgesAndDitchesModel" yX4_goes yX4_goes) ∈ gw := gw_t (gw_t7 (List.mem_of_getElem? (l := tables_1_7) (i := 22) (by decide +kernel))) rfl
theorem qCO_yX4_goes : (Jvm.Cond.code yX4_goes prog_6_method_113_code (5 : Nat) (Option.some Jvm.ClassFile.FieldType.int)) ∈ gw := gw_t (gw_t7 (List.mem_of_getElem? (l := tables_1_7) (i := 23) (by decide +kernel))) rfl
theorem qML_RL_237 : (Jvm.Cond.methodLink "HedgesAndDitchesLaw" (237 : Nat) yX4_games) ∈ gw := gw_t (gw_t7 (List.mem_of_getElem? (l := tables_1_7) (i := 24) (by decide +kernel))) rfl
theorem qIM_yX4_games : (Jvm.Cond.instanceMethod yX4_games) ∈ gw := gw_t (gw_t7 (List.mem_of_getElem? (l := tables_1_7) (i := 25) (by decide +kernel))) rfl
theorem qSE_yX4_games : (Jvm.Cond.selects "HedgesAndDitchesModel" yX4_games yX4_games) ∈ gw := gw_t (gw_t7 (List.mem_of_getElem? (l := tables_1_7) (i := 26) (by decide +kernel))) rfl
theorem qCO_yX4_games : (Jvm.Cond.code yX4_games prog_6_method_114_code (5 : Nat) (Option.some Jvm.ClassFile.FieldType.int)) ∈ gw := gw_t (gw_t7 (List.mem_of_getElem? (l := tables_1_7) (i := 27) (by decide +kernel))) rfl
theorem qML_RL_241 : (Jvm.Cond.methodLink "HedgesAndDitchesLaw" (241 : Nat) yX4_seed) ∈ gw := gw_t (gw_t7 (List.mem_of_getElem? (l := tables_1_7) (i := 28) (by decide +kernel))) rfl
theorem qIM_yX4_seed : (Jvm.Cond.instanceMethod yX4_seed) ∈ gw := gw_t (gw_t7 (List.mem_of_getElem? (l := tables_1_7) (i := 29) (by decide +kernel))) rfl
theorem qSE_yX4_seed : (Jvm.Cond.selects "HedgesAndDitchesModel" yX4_seed yX4_seed) ∈ gw := gw_t (gw_t7 (List.mem_of_getElem? (l := tables_1_7) (i := 30) (by decide +kernel))) rfl
theorem qCO_yX4_seed : (Jvm.Cond.code yX4_seed prog_6_method_115_code (3 : Nat) (Option.some Jvm.ClassFile.FieldType.int)) ∈ gw := gw_t (gw_t7 (List.mem_of_getElem? (l := tables_1_7) (i := 31) (by decide +kernel))) rfl
theorem qML_RL_245 : (Jvm.Cond.methodLink "HedgesAndDitchesLaw" (245 : Nat) yX4_image) ∈ gw := gw_t (gw_t7 (List.mem_of_getElem? (l := tables_1_7) (i := 32) (by decide +kernel))) rfl
theorem qIM_yX4_image : (Jvm.Cond.instanceMethod yX4_image) ∈ gw := gw_t (gw_t7 (List.mem_of_getElem? (l := tables_1_7) (i := 33) (by decide +kernel))) rfl
theorem qSE_yX4_image : (Jvm.Cond.selects "HedgesAndDitchesModel" yX4_image yX4_image) ∈ gw := gw_t (gw_t7 (List.mem_of_getElem? (l := tables_1_7) (i := 34) (by decide +kernel))) rfl
theorem qCO_yX4_image : (Jvm.Cond.code yX4_image prog_6_method_118_code (1 : Nat) (Option.some Jvm.ClassFile.FieldType.int)) ∈ gw := gw_t (gw_t7 (List.mem_of_getElem? (l := tables_1_7) (i := 35) (by decide +kernel))) rfl
theorem qML_RL_249 : (Jvm.Cond.methodLink "HedgesAndDitchesLaw" (249 : Nat) yX4_back) ∈ gw := gw_t (gw_t7 (List.mem_of_getElem? (l := tables_1_7) (i := 36) (by decide +kernel))) rfl
theorem qIM_yX4_back : (Jvm.Cond.instanceMethod yX4_back) ∈ gw := gw_t (gw_t7 (List.mem_of_getElem? (l := tables_1_7) (i := 37) (by decide +kernel))) rfl
theorem qSE_yX4_back : (Jvm.Cond.selects "HedgesAndDitchesModel" yX4_back yX4_back) ∈ gw := gw_t (gw_t7 (List.mem_of_getElem? (l := tables_1_7) (i := 38) (by decide +kernel))) rfl
theorem qCO_yX4_back : (Jvm.Cond.code yX4_back prog_6_method_119_code (2 : Nat) (Option.some Jvm.ClassFile.FieldType.int)) ∈ gw := gw_t (gw_t7 (List.mem_of_getElem? (l := tables_1_7) (i := 39) (by decide +kernel))) rfl
theorem qML_RL_253 : (Jvm.Cond.methodLink "HedgesAndDitchesLaw" (253 : Nat) yX4_status) ∈ gw := gw_t (gw_t7 (List.mem_of_getElem? (l := tables_1_7) (i := 40) (by decide +kernel))) rfl
theorem qIM_yX4_status : (Jvm.Cond.instanceMethod yX4_status) ∈ gw := gw_t (gw_t7 (List.mem_of_getElem? (l := tables_1_7) (i := 41) (by decide +kernel))) rfl
theorem qSE_yX4_status : (Jvm.Cond.selects "HedgesAndDitchesModel" yX4_status yX4_status) ∈ gw := gw_t (gw_t7 (List.mem_of_getElem? (l := tables_1_7) (i := 42) (by decide +kernel))) rfl
theorem qCO_yX4_status : (Jvm.Cond.code yX4_status prog_6_method_120_code (4 : Nat) (Option.some Jvm.ClassFile.FieldType.int)) ∈ gw := gw_t (gw_t7 (List.mem_of_getElem? (l := tables_1_7) (i := 43) (by decide +kernel))) rfl
theorem qCL_RL_18 : (Jvm.Cond.constantLong "HedgesAndDitchesLaw" (18 : Nat) (4294967295 : Int64)) ∈ gw := gw_t (gw_t7 (List.mem_of_getElem? (l := tables_1_7) (i := 44) (by decide +kernel))) rfl
theorem qFL_RJ0_9 : (Jvm.Cond.fieldLink "java/lang/String" (9 : Nat) "java/lang/String" "value" "[B") ∈ gw := gw_t (gw_t7 (List.mem_of_getElem? (l := tables_1_7) (i := 45) (by decide +kernel))) rfl
theorem qFL_RJ0_15 : (Jvm.Cond.fieldLink "java/lang/String" (15 : Nat) "java/lang/String" "coder" "B") ∈ gw := gw_t (gw_t7 (List.mem_of_getElem? (l := tables_1_7) (i := 46) (by decide +kernel))) rfl
theorem qSE_yX3_shelfAt : Cond.selects RX3 yX3_shelfAt yX3_shelfAt ∈ gw := gw_in (List.mem_append_left _ (List.mem_map_of_mem (f := fun q : MethodName × Nat => Cond.selects q.1.cls q.1 q.1) (lw_pv_lw_privs_1 (List.mem_of_getElem? (l := lw_privs_1) (i := 0) (a := ((yX3_shelfAt, 11) : MethodName × Nat)) (by decide +kernel))))) rfl
theorem qSE_yX3_refuse : Cond.selects RX3 yX3_refuse yX3_refuse ∈ gw := gw_in (List.mem_append_left _ (List.mem_map_of_mem (f := fun q : MethodName × Nat => Cond.selects q.1.cls q.1 q.1) (lw_pv_lw_privs_1 (List.mem_of_getElem? (l := lw_privs_1) (i := 1) (a := ((yX3_refuse, 11) : MethodName × Nat)) (by decide +kernel))))) rfl
theorem qSE_yX3_isPlayer : Cond.selects RX3 yX3_isPlayer yX3_isPlayer ∈ gw := gw_in (List.mem_append_left _ (List.mem_map_of_mem (f := fun q : MethodName × Nat => Cond.selects q.1.cls q.1 q.1) (lw_pv_lw_privs_1 (List.mem_of_getElem? (l := lw_privs_1) (i := 2) (a := ((yX3_isPlayer, 11) : MethodName × Nat)) (by decide +kernel))))) rfl
theorem qSE_yX3_kindOf : Cond.selects RX3 yX3_kindOf yX3_kindOf ∈ gw := gw_in (List.mem_append_left _ (List.mem_map_of_mem (f := fun q : MethodName × Nat => Cond.selects q.1.cls q.1 q.1) (lw_pv_lw_privs_1 (List.mem_of_getElem? (l := lw_privs_1) (i := 3) (a := ((yX3_kindOf, 11) : MethodName × Nat)) (by decide +kernel))))) rfl
theorem qSE_yX3_amountOf : Cond.selects RX3 yX3_amountOf yX3_amountOf ∈ gw := gw_in (List.mem_append_left _ (List.mem_map_of_mem (f := fun q : MethodName × Nat => Cond.selects q.1.cls q.1 q.1) (lw_pv_lw_privs_1 (List.mem_of_getElem? (l := lw_privs_1) (i := 4) (a := ((yX3_amountOf, 11) : MethodName × Nat)) (by decide +kernel))))) rfl
theorem qSE_yX3_thoughtChoice : Cond.selects RX3 yX3_thoughtChoice yX3_thoughtChoice ∈ gw := gw_in (List.mem_append_left _ (List.mem_map_of_mem (f := fun q : MethodName × Nat => Cond.selects q.1.cls q.1 q.1) (lw_pv_lw_privs_1 (List.mem_of_getElem? (l := lw_privs_1) (i := 5) (a := ((yX3_thoughtChoice, 11) : MethodName × Nat)) (by decide +kernel))))) rfl
theorem qSE_yX3_chosenSlot : Cond.selects RX3 yX3_chosenSlot yX3_chosenSlot ∈ gw := gw_in (List.mem_append_left _ (List.mem_map_of_mem (f := fun q : MethodName × Nat => Cond.selects q.1.cls q.1 q.1) (lw_pv_lw_privs_1 (List.mem_of_getElem? (l := lw_privs_1) (i := 6) (a := ((yX3_chosenSlot, 11) : MethodName × Nat)) (by decide +kernel))))) rfl
theorem qSE_yX3_enlist : Cond.selects RX3 yX3_enlist yX3_enlist ∈ gw := gw_in (List.mem_append_left _ (List.mem_map_of_mem (f := fun q : MethodName × Nat => Cond.selects q.1.cls q.1 q.1) (lw_pv_lw_privs_1 (List.mem_of_getElem? (l := lw_privs_1) (i := 7) (a := ((yX3_enlist, 11) : MethodName × Nat)) (by decide +kernel))))) rfl
theorem qSE_yX3_readStatements : Cond.selects RX3 yX3_readStatements yX3_readStatements ∈ gw := gw_in (List.mem_append_left _ (List.mem_map_of_mem (f := fun q : MethodName × Nat => Cond.selects q.1.cls q.1 q.1) (lw_pv_lw_privs_1 (List.mem_of_getElem? (l := lw_privs_1) (i := 8) (a := ((yX3_readStatements, 11) : MethodName × Nat)) (by decide +kernel))))) rfl
theorem qSE_yX3_readStatement : Cond.selects RX3 yX3_readStatement yX3_readStatement ∈ gw := gw_in (List.mem_append_left _ (List.mem_map_of_mem (f := fun q : MethodName × Nat => Cond.selects q.1.cls q.1 q.1) (lw_pv_lw_privs_1 (List.mem_of_getElem? (l := lw_privs_1) (i := 9) (a := ((yX3_readStatement, 11) : MethodName × Nat)) (by decide +kernel))))) rfl
theorem qSE_yX3_readSize : Cond.selects RX3 yX3_readSize yX3_readSize ∈ gw := gw_in (List.mem_append_left _ (List.mem_map_of_mem (f := fun q : MethodName × Nat => Cond.selects q.1.cls q.1 q.1) (lw_pv_lw_privs_1 (List.mem_of_getElem? (l := lw_privs_1) (i := 10) (a := ((yX3_readSize, 11) : MethodName × Nat)) (by decide +kernel))))) rfl
theorem qSE_yX3_readNumber : Cond.selects RX3 yX3_readNumber yX3_readNumber ∈ gw := gw_in (List.mem_append_left _ (List.mem_map_of_mem (f := fun q : MethodName × Nat => Cond.selects q.1.cls q.1 q.1) (lw_pv_lw_privs_1 (List.mem_of_getElem? (l := lw_privs_1) (i := 11) (a := ((yX3_readNumber, 11) : MethodName × Nat)) (by decide +kernel))))) rfl
theorem qSE_yX3_readMove : Cond.selects RX3 yX3_readMove yX3_readMove ∈ gw := gw_in (List.mem_append_left _ (List.mem_map_of_mem (f := fun q : MethodName × Nat => Cond.selects q.1.cls q.1 q.1) (lw_pv_lw_privs_1 (List.mem_of_getElem? (l := lw_privs_1) (i := 12) (a := ((yX3_readMove, 11) : MethodName × Nat)) (by decide +kernel))))) rfl
theorem qSE_yX3_readTurn : Cond.selects RX3 yX3_readTurn yX3_readTurn ∈ gw := gw_in (List.mem_append_left _ (List.mem_map_of_mem (f := fun q : MethodName × Nat => Cond.selects q.1.cls q.1 q.1) (lw_pv_lw_privs_1 (List.mem_of_getElem? (l := lw_privs_1) (i := 13) (a := ((yX3_readTurn, 11) : MethodName × Nat)) (by decide +kernel))))) rfl
theorem qSE_yX3_readPlayer : Cond.selects RX3 yX3_readPlayer yX3_readPlayer ∈ gw := gw_in (List.mem_append_left _ (List.mem_map_of_mem (f := fun q : MethodName × Nat => Cond.selects q.1.cls q.1 q.1) (lw_pv_lw_privs_1 (List.mem_of_getElem? (l := lw_privs_1) (i := 14) (a := ((yX3_readPlayer, 11) : MethodName × Nat)) (by decide +kernel))))) rfl
theorem qSE_yX3_refuseLead : Cond.selects RX3 yX3_refuseLead yX3_refuseLead ∈ gw := gw_in (List.mem_append_left _ (List.mem_map_of_mem (f := fun q : MethodName × Nat => Cond.selects q.1.cls q.1 q.1) (lw_pv_lw_privs_1 (List.mem_of_getElem? (l := lw_privs_1) (i := 15) (a := ((yX3_refuseLead, 11) : MethodName × Nat)) (by decide +kernel))))) rfl
theorem qSE_yX3_isNearEnd : Cond.selects RX3 yX3_isNearEnd yX3_isNearEnd ∈ gw := gw_in (List.mem_append_left _ (List.mem_map_of_mem (f := fun q : MethodName × Nat => Cond.selects q.1.cls q.1 q.1) (lw_pv_lw_privs_2 (List.mem_of_getElem? (l := lw_privs_2) (i := 0) (a := ((yX3_isNearEnd, 11) : MethodName × Nat)) (by decide +kernel))))) rfl
theorem qSE_yX3_playOut : Cond.selects RX3 yX3_playOut yX3_playOut ∈ gw := gw_in (List.mem_append_left _ (List.mem_map_of_mem (f := fun q : MethodName × Nat => Cond.selects q.1.cls q.1 q.1) (lw_pv_lw_privs_2 (List.mem_of_getElem? (l := lw_privs_2) (i := 1) (a := ((yX3_playOut, 11) : MethodName × Nat)) (by decide +kernel))))) rfl
theorem qSE_yX3_winnings : Cond.selects RX3 yX3_winnings yX3_winnings ∈ gw := gw_in (List.mem_append_left _ (List.mem_map_of_mem (f := fun q : MethodName × Nat => Cond.selects q.1.cls q.1 q.1) (lw_pv_lw_privs_2 (List.mem_of_getElem? (l := lw_privs_2) (i := 2) (a := ((yX3_winnings, 11) : MethodName × Nat)) (by decide +kernel))))) rfl
theorem qSE_yX3_waysToTurn : Cond.selects RX3 yX3_waysToTurn yX3_waysToTurn ∈ gw := gw_in (List.mem_append_left _ (List.mem_map_of_mem (f := fun q : MethodName × Nat => Cond.selects q.1.cls q.1 q.1) (lw_pv_lw_privs_2 (List.mem_of_getElem? (l := lw_privs_2) (i := 3) (a := ((yX3_waysToTurn, 11) : MethodName × Nat)) (by decide +kernel))))) rfl
theorem qSE_yX3_toldWrong : Cond.selects RX3 yX3_toldWrong yX3_toldWrong ∈ gw := gw_in (List.mem_append_left _ (List.mem_map_of_mem (f := fun q : MethodName × Nat => Cond.selects q.1.cls q.1 q.1) (lw_pv_lw_privs_2 (List.mem_of_getElem? (l := lw_privs_2) (i := 4) (a := ((yX3_toldWrong, 11) : MethodName × Nat)) (by decide +kernel))))) rfl
theorem qSE_yX3_endByDraws : Cond.selects RX3 yX3_endByDraws yX3_endByDraws ∈ gw := gw_in (List.mem_append_left _ (List.mem_map_of_mem (f := fun q : MethodName × Nat => Cond.selects q.1.cls q.1 q.1) (lw_pv_lw_privs_2 (List.mem_of_getElem? (l := lw_privs_2) (i := 5) (a := ((yX3_endByDraws, 11) : MethodName × Nat)) (by decide +kernel))))) rfl
theorem qSE_yX3_dropLostPlayer : Cond.selects RX3 yX3_dropLostPlayer yX3_dropLostPlayer ∈ gw := gw_in (List.mem_append_left _ (List.mem_map_of_mem (f := fun q : MethodName × Nat => Cond.selects q.1.cls q.1 q.1) (lw_pv_lw_privs_2 (List.mem_of_getElem? (l := lw_privs_2) (i := 6) (a := ((yX3_dropLostPlayer, 11) : MethodName × Nat)) (by decide +kernel))))) rfl
theorem qSE_yX3_fullShelves : Cond.selects RX3 yX3_fullShelves yX3_fullShelves ∈ gw := gw_in (List.mem_append_left _ (List.mem_map_of_mem (f := fun q : MethodName × Nat => Cond.selects q.1.cls q.1 q.1) (lw_pv_lw_privs_2 (List.mem_of_getElem? (l := lw_privs_2) (i := 7) (a := ((yX3_fullShelves, 11) : MethodName × Nat)) (by decide +kernel))))) rfl
theorem qSE_yX3_refusalCount : Cond.selects RX3 yX3_refusalCount yX3_refusalCount ∈ gw := gw_in (List.mem_append_left _ (List.mem_map_of_mem (f := fun q : MethodName × Nat => Cond.selects q.1.cls q.1 q.1) (lw_pv_lw_privs_2 (List.mem_of_getElem? (l := lw_privs_2) (i := 8) (a := ((yX3_refusalCount, 11) : MethodName × Nat)) (by decide +kernel))))) rfl
theorem qSE_yX4_sized : Cond.selects RX4 yX4_sized yX4_sized ∈ gw := gw_in (List.mem_append_left _ (List.mem_map_of_mem (f := fun q : MethodName × Nat => Cond.selects q.1.cls q.1 q.1) (lw_pv_lw_privs_2 (List.mem_of_getElem? (l := lw_privs_2) (i := 9) (a := ((yX4_sized, 25) : MethodName × Nat)) (by decide +kernel))))) rfl
theorem qSE_yX4_edges : Cond.selects RX4 yX4_edges yX4_edges ∈ gw := gw_in (List.mem_append_left _ (List.mem_map_of_mem (f := fun q : MethodName × Nat => Cond.selects q.1.cls q.1 q.1) (lw_pv_lw_privs_2 (List.mem_of_getElem? (l := lw_privs_2) (i := 10) (a := ((yX4_edges, 25) : MethodName × Nat)) (by decide +kernel))))) rfl
theorem qSE_yX4_level : Cond.selects RX4 yX4_level yX4_level ∈ gw := gw_in (List.mem_append_left _ (List.mem_map_of_mem (f := fun q : MethodName × Nat => Cond.selects q.1.cls q.1 q.1) (lw_pv_lw_privs_2 (List.mem_of_getElem? (l := lw_privs_2) (i := 11) (a := ((yX4_level, 25) : MethodName × Nat)) (by decide +kernel))))) rfl
theorem qSE_yX4_no : Cond.selects RX4 yX4_no yX4_no ∈ gw := gw_in (List.mem_append_left _ (List.mem_map_of_mem (f := fun q : MethodName × Nat => Cond.selects q.1.cls q.1 q.1) (lw_pv_lw_privs_2 (List.mem_of_getElem? (l := lw_privs_2) (i := 12) (a := ((yX4_no, 25) : MethodName × Nat)) (by decide +kernel))))) rfl
theorem qSE_yX4_isRow : Cond.selects RX4 yX4_isRow yX4_isRow ∈ gw := gw_in (List.mem_append_left _ (List.mem_map_of_mem (f := fun q : MethodName × Nat => Cond.selects q.1.cls q.1 q.1) (lw_pv_lw_privs_2 (List.mem_of_getElem? (l := lw_privs_2) (i := 13) (a := ((yX4_isRow, 25) : MethodName × Nat)) (by decide +kernel))))) rfl
theorem qSE_yX4_noRow : Cond.selects RX4 yX4_noRow yX4_noRow ∈ gw := gw_in (List.mem_append_left _ (List.mem_map_of_mem (f := fun q : MethodName × Nat => Cond.selects q.1.cls q.1 q.1) (lw_pv_lw_privs_2 (List.mem_of_getElem? (l := lw_privs_2) (i := 14) (a := ((yX4_noRow, 25) : MethodName × Nat)) (by decide +kernel))))) rfl
theorem qSE_yX4_isPlayer : Cond.selects RX4 yX4_isPlayer yX4_isPlayer ∈ gw := gw_in (List.mem_append_left _ (List.mem_map_of_mem (f := fun q : MethodName × Nat => Cond.selects q.1.cls q.1 q.1) (lw_pv_lw_privs_2 (List.mem_of_getElem? (l := lw_privs_2) (i := 15) (a := ((yX4_isPlayer, 25) : MethodName × Nat)) (by decide +kernel))))) rfl
theorem qSE_yX4_howMany : Cond.selects RX4 yX4_howMany yX4_howMany ∈ gw := gw_in (List.mem_append_left _ (List.mem_map_of_mem (f := fun q : MethodName × Nat => Cond.selects q.1.cls q.1 q.1) (lw_pv_lw_privs_3 (List.mem_of_getElem? (l := lw_privs_3) (i := 0) (a := ((yX4_howMany, 25) : MethodName × Nat)) (by decide +kernel))))) rfl
theorem qSE_yX4_isMove : Cond.selects RX4 yX4_isMove yX4_isMove ∈ gw := gw_in (List.mem_append_left _ (List.mem_map_of_mem (f := fun q : MethodName × Nat => Cond.selects q.1.cls q.1 q.1) (lw_pv_lw_privs_3 (List.mem_of_getElem? (l := lw_privs_3) (i := 1) (a := ((yX4_isMove, 25) : MethodName × Nat)) (by decide +kernel))))) rfl
theorem qSE_yX4_isField : Cond.selects RX4 yX4_isField yX4_isField ∈ gw := gw_in (List.mem_append_left _ (List.mem_map_of_mem (f := fun q : MethodName × Nat => Cond.selects q.1.cls q.1 q.1) (lw_pv_lw_privs_3 (List.mem_of_getElem? (l := lw_privs_3) (i := 2) (a := ((yX4_isField, 25) : MethodName × Nat)) (by decide +kernel))))) rfl
theorem qSE_yX4_mayBe : Cond.selects RX4 yX4_mayBe yX4_mayBe ∈ gw := gw_in (List.mem_append_left _ (List.mem_map_of_mem (f := fun q : MethodName × Nat => Cond.selects q.1.cls q.1 q.1) (lw_pv_lw_privs_3 (List.mem_of_getElem? (l := lw_privs_3) (i := 3) (a := ((yX4_mayBe, 25) : MethodName × Nat)) (by decide +kernel))))) rfl
theorem qSE_yX4_hedges : Cond.selects RX4 yX4_hedges yX4_hedges ∈ gw := gw_in (List.mem_append_left _ (List.mem_map_of_mem (f := fun q : MethodName × Nat => Cond.selects q.1.cls q.1 q.1) (lw_pv_lw_privs_3 (List.mem_of_getElem? (l := lw_privs_3) (i := 4) (a := ((yX4_hedges, 25) : MethodName × Nat)) (by decide +kernel))))) rfl
theorem qSE_yX4_edge : Cond.selects RX4 yX4_edge yX4_edge ∈ gw := gw_in (List.mem_append_left _ (List.mem_map_of_mem (f := fun q : MethodName × Nat => Cond.selects q.1.cls q.1 q.1) (lw_pv_lw_privs_3 (List.mem_of_getElem? (l := lw_privs_3) (i := 5) (a := ((yX4_edge, 25) : MethodName × Nat)) (by decide +kernel))))) rfl
theorem qSE_yX4_choiceOf : Cond.selects RX4 yX4_choiceOf yX4_choiceOf ∈ gw := gw_in (List.mem_append_left _ (List.mem_map_of_mem (f := fun q : MethodName × Nat => Cond.selects q.1.cls q.1 q.1) (lw_pv_lw_privs_3 (List.mem_of_getElem? (l := lw_privs_3) (i := 6) (a := ((yX4_choiceOf, 25) : MethodName × Nat)) (by decide +kernel))))) rfl
theorem qSE_yX4_chosen : Cond.selects RX4 yX4_chosen yX4_chosen ∈ gw := gw_in (List.mem_append_left _ (List.mem_map_of_mem (f := fun q : MethodName × Nat => Cond.selects q.1.cls q.1 q.1) (lw_pv_lw_privs_3 (List.mem_of_getElem? (l := lw_privs_3) (i := 7) (a := ((yX4_chosen, 25) : MethodName × Nat)) (by decide +kernel))))) rfl
theorem qSE_yX4_shuts : Cond.selects RX4 yX4_shuts yX4_shuts ∈ gw := gw_in (List.mem_append_left _ (List.mem_map_of_mem (f := fun q : MethodName × Nat => Cond.selects q.1.cls q.1 q.1) (lw_pv_lw_privs_3 (List.mem_of_getElem? (l := lw_privs_3) (i := 8) (a := ((yX4_shuts, 25) : MethodName × Nat)) (by decide +kernel))))) rfl
theorem qSE_yX4_field : Cond.selects RX4 yX4_field yX4_field ∈ gw := gw_in (List.mem_append_left _ (List.mem_map_of_mem (f := fun q : MethodName × Nat => Cond.selects q.1.cls q.1 q.1) (lw_pv_lw_privs_3 (List.mem_of_getElem? (l := lw_privs_3) (i := 9) (a := ((yX4_field, 25) : MethodName × Nat)) (by decide +kernel))))) rfl
theorem qSE_yX4_digs : Cond.selects RX4 yX4_digs yX4_digs ∈ gw := gw_in (List.mem_append_left _ (List.mem_map_of_mem (f := fun q : MethodName × Nat => Cond.selects q.1.cls q.1 q.1) (lw_pv_lw_privs_3 (List.mem_of_getElem? (l := lw_privs_3) (i := 10) (a := ((yX4_digs, 25) : MethodName × Nat)) (by decide +kernel))))) rfl
theorem qSE_yX4_hasRim : Cond.selects RX4 yX4_hasRim yX4_hasRim ∈ gw := gw_in (List.mem_append_left _ (List.mem_map_of_mem (f := fun q : MethodName × Nat => Cond.selects q.1.cls q.1 q.1) (lw_pv_lw_privs_3 (List.mem_of_getElem? (l := lw_privs_3) (i := 11) (a := ((yX4_hasRim, 25) : MethodName × Nat)) (by decide +kernel))))) rfl
theorem qSE_yX4_isRim : Cond.selects RX4 yX4_isRim yX4_isRim ∈ gw := gw_in (List.mem_append_left _ (List.mem_map_of_mem (f := fun q : MethodName × Nat => Cond.selects q.1.cls q.1 q.1) (lw_pv_lw_privs_3 (List.mem_of_getElem? (l := lw_privs_3) (i := 12) (a := ((yX4_isRim, 25) : MethodName × Nat)) (by decide +kernel))))) rfl
theorem qSE_yX4_careful : Cond.selects RX4 yX4_careful yX4_careful ∈ gw := gw_in (List.mem_append_left _ (List.mem_map_of_mem (f := fun q : MethodName × Nat => Cond.selects q.1.cls q.1 q.1) (lw_pv_lw_privs_3 (List.mem_of_getElem? (l := lw_privs_3) (i := 13) (a := ((yX4_careful, 25) : MethodName × Nat)) (by decide +kernel))))) rfl
theorem qSE_yX4_isCalm : Cond.selects RX4 yX4_isCalm yX4_isCalm ∈ gw := gw_in (List.mem_append_left _ (List.mem_map_of_mem (f := fun q : MethodName × Nat => Cond.selects q.1.cls q.1 q.1) (lw_pv_lw_privs_3 (List.mem_of_getElem? (l := lw_privs_3) (i := 14) (a := ((yX4_isCalm, 25) : MethodName × Nat)) (by decide +kernel))))) rfl
theorem qSE_yX4_draw : Cond.selects RX4 yX4_draw yX4_draw ∈ gw := gw_in (List.mem_append_left _ (List.mem_map_of_mem (f := fun q : MethodName × Nat => Cond.selects q.1.cls q.1 q.1) (lw_pv_lw_privs_3 (List.mem_of_getElem? (l := lw_privs_3) (i := 15) (a := ((yX4_draw, 25) : MethodName × Nat)) (by decide +kernel))))) rfl
theorem qSE_yX4_ith : Cond.selects RX4 yX4_ith yX4_ith ∈ gw := gw_in (List.mem_append_left _ (List.mem_map_of_mem (f := fun q : MethodName × Nat => Cond.selects q.1.cls q.1 q.1) (lw_pv_lw_privs_4 (List.mem_of_getElem? (l := lw_privs_4) (i := 0) (a := ((yX4_ith, 25) : MethodName × Nat)) (by decide +kernel))))) rfl
theorem qSE_yX4_newPlayer : Cond.selects RX4 yX4_newPlayer yX4_newPlayer ∈ gw := gw_in (List.mem_append_left _ (List.mem_map_of_mem (f := fun q : MethodName × Nat => Cond.selects q.1.cls q.1 q.1) (lw_pv_lw_privs_4 (List.mem_of_getElem? (l := lw_privs_4) (i := 1) (a := ((yX4_newPlayer, 25) : MethodName × Nat)) (by decide +kernel))))) rfl
theorem qSE_yX4_keep : Cond.selects RX4 yX4_keep yX4_keep ∈ gw := gw_in (List.mem_append_left _ (List.mem_map_of_mem (f := fun q : MethodName × Nat => Cond.selects q.1.cls q.1 q.1) (lw_pv_lw_privs_4 (List.mem_of_getElem? (l := lw_privs_4) (i := 2) (a := ((yX4_keep, 25) : MethodName × Nat)) (by decide +kernel))))) rfl
theorem qSE_yX4_next : Cond.selects RX4 yX4_next yX4_next ∈ gw := gw_in (List.mem_append_left _ (List.mem_map_of_mem (f := fun q : MethodName × Nat => Cond.selects q.1.cls q.1 q.1) (lw_pv_lw_privs_4 (List.mem_of_getElem? (l := lw_privs_4) (i := 3) (a := ((yX4_next, 25) : MethodName × Nat)) (by decide +kernel))))) rfl
theorem qSE_yX4_statement : Cond.selects RX4 yX4_statement yX4_statement ∈ gw := gw_in (List.mem_append_left _ (List.mem_map_of_mem (f := fun q : MethodName × Nat => Cond.selects q.1.cls q.1 q.1) (lw_pv_lw_privs_4 (List.mem_of_getElem? (l := lw_privs_4) (i := 4) (a := ((yX4_statement, 25) : MethodName × Nat)) (by decide +kernel))))) rfl
theorem qSE_yX4_isWord : Cond.selects RX4 yX4_isWord yX4_isWord ∈ gw := gw_in (List.mem_append_left _ (List.mem_map_of_mem (f := fun q : MethodName × Nat => Cond.selects q.1.cls q.1 q.1) (lw_pv_lw_privs_4 (List.mem_of_getElem? (l := lw_privs_4) (i := 5) (a := ((yX4_isWord, 25) : MethodName × Nat)) (by decide +kernel))))) rfl
theorem qSE_yX4_number : Cond.selects RX4 yX4_number yX4_number ∈ gw := gw_in (List.mem_append_left _ (List.mem_map_of_mem (f := fun q : MethodName × Nat => Cond.selects q.1.cls q.1 q.1) (lw_pv_lw_privs_4 (List.mem_of_getElem? (l := lw_privs_4) (i := 6) (a := ((yX4_number, 25) : MethodName × Nat)) (by decide +kernel))))) rfl
theorem qSE_yX4_makes : Cond.selects RX4 yX4_makes yX4_makes ∈ gw := gw_in (List.mem_append_left _ (List.mem_map_of_mem (f := fun q : MethodName × Nat => Cond.selects q.1.cls q.1 q.1) (lw_pv_lw_privs_4 (List.mem_of_getElem? (l := lw_privs_4) (i := 7) (a := ((yX4_makes, 25) : MethodName × Nat)) (by decide +kernel))))) rfl
theorem qSE_yX4_again : Cond.selects RX4 yX4_again yX4_again ∈ gw := gw_in (List.mem_append_left _ (List.mem_map_of_mem (f := fun q : MethodName × Nat => Cond.selects q.1.cls q.1 q.1) (lw_pv_lw_privs_4 (List.mem_of_getElem? (l := lw_privs_4) (i := 8) (a := ((yX4_again, 25) : MethodName × Nat)) (by decide +kernel))))) rfl
theorem qSE_yX4_drains : Cond.selects RX4 yX4_drains yX4_drains ∈ gw := gw_in (List.mem_append_left _ (List.mem_map_of_mem (f := fun q : MethodName × Nat => Cond.selects q.1.cls q.1 q.1) (lw_pv_lw_privs_4 (List.mem_of_getElem? (l := lw_privs_4) (i := 9) (a := ((yX4_drains, 25) : MethodName × Nat)) (by decide +kernel))))) rfl
theorem qSE_yX4_ditchOf : Cond.selects RX4 yX4_ditchOf yX4_ditchOf ∈ gw := gw_in (List.mem_append_left _ (List.mem_map_of_mem (f := fun q : MethodName × Nat => Cond.selects q.1.cls q.1 q.1) (lw_pv_lw_privs_4 (List.mem_of_getElem? (l := lw_privs_4) (i := 10) (a := ((yX4_ditchOf, 25) : MethodName × Nat)) (by decide +kernel))))) rfl
theorem qSE_yX4_beside : Cond.selects RX4 yX4_beside yX4_beside ∈ gw := gw_in (List.mem_append_left _ (List.mem_map_of_mem (f := fun q : MethodName × Nat => Cond.selects q.1.cls q.1 q.1) (lw_pv_lw_privs_4 (List.mem_of_getElem? (l := lw_privs_4) (i := 11) (a := ((yX4_beside, 25) : MethodName × Nat)) (by decide +kernel))))) rfl
theorem qSE_yX4_isOpen : Cond.selects RX4 yX4_isOpen yX4_isOpen ∈ gw := gw_in (List.mem_append_left _ (List.mem_map_of_mem (f := fun q : MethodName × Nat => Cond.selects q.1.cls q.1 q.1) (lw_pv_lw_privs_4 (List.mem_of_getElem? (l := lw_privs_4) (i := 12) (a := ((yX4_isOpen, 25) : MethodName × Nat)) (by decide +kernel))))) rfl
theorem qSE_yX4_colour : Cond.selects RX4 yX4_colour yX4_colour ∈ gw := gw_in (List.mem_append_left _ (List.mem_map_of_mem (f := fun q : MethodName × Nat => Cond.selects q.1.cls q.1 q.1) (lw_pv_lw_privs_4 (List.mem_of_getElem? (l := lw_privs_4) (i := 13) (a := ((yX4_colour, 25) : MethodName × Nat)) (by decide +kernel))))) rfl
theorem qSE_yX4_scoreOf : Cond.selects RX4 yX4_scoreOf yX4_scoreOf ∈ gw := gw_in (List.mem_append_left _ (List.mem_map_of_mem (f := fun q : MethodName × Nat => Cond.selects q.1.cls q.1 q.1) (lw_pv_lw_privs_4 (List.mem_of_getElem? (l := lw_privs_4) (i := 14) (a := ((yX4_scoreOf, 25) : MethodName × Nat)) (by decide +kernel))))) rfl
theorem qSE_yX4_lanesOf : Cond.selects RX4 yX4_lanesOf yX4_lanesOf ∈ gw := gw_in (List.mem_append_left _ (List.mem_map_of_mem (f := fun q : MethodName × Nat => Cond.selects q.1.cls q.1 q.1) (lw_pv_lw_privs_4 (List.mem_of_getElem? (l := lw_privs_4) (i := 15) (a := ((yX4_lanesOf, 25) : MethodName × Nat)) (by decide +kernel))))) rfl
theorem qSE_yX4_leadOf : Cond.selects RX4 yX4_leadOf yX4_leadOf ∈ gw := gw_in (List.mem_append_left _ (List.mem_map_of_mem (f := fun q : MethodName × Nat => Cond.selects q.1.cls q.1 q.1) (lw_pv_lw_privs_5 (List.mem_of_getElem? (l := lw_privs_5) (i := 0) (a := ((yX4_leadOf, 25) : MethodName × Nat)) (by decide +kernel))))) rfl
theorem qSE_yX4_noLead : Cond.selects RX4 yX4_noLead yX4_noLead ∈ gw := gw_in (List.mem_append_left _ (List.mem_map_of_mem (f := fun q : MethodName × Nat => Cond.selects q.1.cls q.1 q.1) (lw_pv_lw_privs_5 (List.mem_of_getElem? (l := lw_privs_5) (i := 1) (a := ((yX4_noLead, 25) : MethodName × Nat)) (by decide +kernel))))) rfl
theorem qSE_yX4_chainOf : Cond.selects RX4 yX4_chainOf yX4_chainOf ∈ gw := gw_in (List.mem_append_left _ (List.mem_map_of_mem (f := fun q : MethodName × Nat => Cond.selects q.1.cls q.1 q.1) (lw_pv_lw_privs_5 (List.mem_of_getElem? (l := lw_privs_5) (i := 2) (a := ((yX4_chainOf, 25) : MethodName × Nat)) (by decide +kernel))))) rfl
theorem qSE_yX4_search : Cond.selects RX4 yX4_search yX4_search ∈ gw := gw_in (List.mem_append_left _ (List.mem_map_of_mem (f := fun q : MethodName × Nat => Cond.selects q.1.cls q.1 q.1) (lw_pv_lw_privs_5 (List.mem_of_getElem? (l := lw_privs_5) (i := 3) (a := ((yX4_search, 25) : MethodName × Nat)) (by decide +kernel))))) rfl
theorem qSE_yX4_takes : Cond.selects RX4 yX4_takes yX4_takes ∈ gw := gw_in (List.mem_append_left _ (List.mem_map_of_mem (f := fun q : MethodName × Nat => Cond.selects q.1.cls q.1 q.1) (lw_pv_lw_privs_5 (List.mem_of_getElem? (l := lw_privs_5) (i := 4) (a := ((yX4_takes, 25) : MethodName × Nat)) (by decide +kernel))))) rfl
theorem qSE_yX4_plays : Cond.selects RX4 yX4_plays yX4_plays ∈ gw := gw_in (List.mem_append_left _ (List.mem_map_of_mem (f := fun q : MethodName × Nat => Cond.selects q.1.cls q.1 q.1) (lw_pv_lw_privs_5 (List.mem_of_getElem? (l := lw_privs_5) (i := 5) (a := ((yX4_plays, 25) : MethodName × Nat)) (by decide +kernel))))) rfl
theorem qSE_yX4_isAlike : Cond.selects RX4 yX4_isAlike yX4_isAlike ∈ gw := gw_in (List.mem_append_left _ (List.mem_map_of_mem (f := fun q : MethodName × Nat => Cond.selects q.1.cls q.1 q.1) (lw_pv_lw_privs_5 (List.mem_of_getElem? (l := lw_privs_5) (i := 6) (a := ((yX4_isAlike, 25) : MethodName × Nat)) (by decide +kernel))))) rfl
theorem qSE_yX4_turned : Cond.selects RX4 yX4_turned yX4_turned ∈ gw := gw_in (List.mem_append_left _ (List.mem_map_of_mem (f := fun q : MethodName × Nat => Cond.selects q.1.cls q.1 q.1) (lw_pv_lw_privs_5 (List.mem_of_getElem? (l := lw_privs_5) (i := 7) (a := ((yX4_turned, 25) : MethodName × Nat)) (by decide +kernel))))) rfl
theorem qSE_yX4_withHedges : Cond.selects RX4 yX4_withHedges yX4_withHedges ∈ gw := gw_in (List.mem_append_left _ (List.mem_map_of_mem (f := fun q : MethodName × Nat => Cond.selects q.1.cls q.1 q.1) (lw_pv_lw_privs_5 (List.mem_of_getElem? (l := lw_privs_5) (i := 8) (a := ((yX4_withHedges, 25) : MethodName × Nat)) (by decide +kernel))))) rfl
theorem qSE_yX4_partOf : Cond.selects RX4 yX4_partOf yX4_partOf ∈ gw := gw_in (List.mem_append_left _ (List.mem_map_of_mem (f := fun q : MethodName × Nat => Cond.selects q.1.cls q.1 q.1) (lw_pv_lw_privs_5 (List.mem_of_getElem? (l := lw_privs_5) (i := 9) (a := ((yX4_partOf, 25) : MethodName × Nat)) (by decide +kernel))))) rfl
theorem qSE_yX4_winsOf : Cond.selects RX4 yX4_winsOf yX4_winsOf ∈ gw := gw_in (List.mem_append_left _ (List.mem_map_of_mem (f := fun q : MethodName × Nat => Cond.selects q.1.cls q.1 q.1) (lw_pv_lw_privs_5 (List.mem_of_getElem? (l := lw_privs_5) (i := 10) (a := ((yX4_winsOf, 25) : MethodName × Nat)) (by decide +kernel))))) rfl
theorem qSE_yX4_leadPlayed : Cond.selects RX4 yX4_leadPlayed yX4_leadPlayed ∈ gw := gw_in (List.mem_append_left _ (List.mem_map_of_mem (f := fun q : MethodName × Nat => Cond.selects q.1.cls q.1 q.1) (lw_pv_lw_privs_5 (List.mem_of_getElem? (l := lw_privs_5) (i := 11) (a := ((yX4_leadPlayed, 25) : MethodName × Nat)) (by decide +kernel))))) rfl
theorem qSE_yX4_noGame : Cond.selects RX4 yX4_noGame yX4_noGame ∈ gw := gw_in (List.mem_append_left _ (List.mem_map_of_mem (f := fun q : MethodName × Nat => Cond.selects q.1.cls q.1 q.1) (lw_pv_lw_privs_5 (List.mem_of_getElem? (l := lw_privs_5) (i := 12) (a := ((yX4_noGame, 25) : MethodName × Nat)) (by decide +kernel))))) rfl
theorem qSE_yX4_lived : Cond.selects RX4 yX4_lived yX4_lived ∈ gw := gw_in (List.mem_append_left _ (List.mem_map_of_mem (f := fun q : MethodName × Nat => Cond.selects q.1.cls q.1 q.1) (lw_pv_lw_privs_5 (List.mem_of_getElem? (l := lw_privs_5) (i := 13) (a := ((yX4_lived, 25) : MethodName × Nat)) (by decide +kernel))))) rfl
theorem qSE_yX4_toldAt : Cond.selects RX4 yX4_toldAt yX4_toldAt ∈ gw := gw_in (List.mem_append_left _ (List.mem_map_of_mem (f := fun q : MethodName × Nat => Cond.selects q.1.cls q.1 q.1) (lw_pv_lw_privs_5 (List.mem_of_getElem? (l := lw_privs_5) (i := 14) (a := ((yX4_toldAt, 25) : MethodName × Nat)) (by decide +kernel))))) rfl
theorem uin_of {ws : List Cond} (ps : List Nat) (h : ws = ps.filterMap (fun i => tables_1[i]?)) (g : ws.all goodWord = true) : ∀ w ∈ ws, w ∈ gw := fun w hw => by
  have h1 := List.all_eq_true.mp g w hw
  rw [h] at hw
  obtain ⟨i, -, hi⟩ := List.mem_filterMap.mp hw
  exact gw_t (List.mem_of_getElem? hi) h1
theorem uin_X0 : ∀ w ∈ u_ws RX0 TX0 16, w ∈ gw := uin_of [77, 79, 81, 83, 85, 87, 89, 91, 93, 95, 97, 99, 101, 103, 105, 107] (by decide +kernel) (by decide +kernel)
theorem uin_X1 : ∀ w ∈ u_ws RX1 TX1 3, w ∈ gw := uin_of [146, 148, 150] (by decide +kernel) (by decide +kernel)
theorem uin_X2 : ∀ w ∈ u_ws RX2 TX2 4, w ∈ gw := uin_of [124, 126, 128, 130] (by decide +kernel) (by decide +kernel)
theorem uin_X3 : ∀ w ∈ u_ws RX3 TX3 11, w ∈ gw := uin_of [165, 167, 169, 171, 173, 175, 177, 179, 181, 183, 185] (by decide +kernel) (by decide +kernel)
theorem uin_X4 : ∀ w ∈ u_ws RX4 TX4 25, w ∈ gw := uin_of [962, 964, 966, 968, 970, 972, 974, 976, 978, 980, 982, 984, 986, 988, 990, 992, 994, 996, 998, 1000, 1002, 1004, 1006, 1008, 1010] (by decide +kernel) (by decide +kernel)
