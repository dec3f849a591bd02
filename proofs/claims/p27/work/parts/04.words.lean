/-! THE WORDS: jAll, the good ones of the tables; each by its place. (From the printed Statement, by gen_words.py) -/
def jAll : List Cond := lw_tbl.filter goodWord
theorem jAll_tbl : ∀ w ∈ jAll, w ∈ lw_tbl := fun _ h => (List.mem_filter.mp h).1
theorem jAll_good : ∀ w ∈ jAll, goodWord w = true := fun _ h => (List.mem_filter.mp h).2
theorem jM1 {w : Cond} (h : w ∈ tables_1_1) : w ∈ lw_tbl := List.mem_append_right _ (List.mem_append_left _ h)
theorem jM2 {w : Cond} (h : w ∈ tables_1_2) : w ∈ lw_tbl := List.mem_append_right _ (List.mem_append_right _ (List.mem_append_left _ h))
theorem jM3 {w : Cond} (h : w ∈ tables_1_3) : w ∈ lw_tbl := List.mem_append_right _ (List.mem_append_right _ (List.mem_append_right _ h))
theorem jMp {w : Cond} (h : w ∈ k2_sels lw_privs) : w ∈ lw_tbl := List.mem_append_left _ h
def jIsNest : Cond → Bool
  | .fieldLinkNest .. => true
  | .methodLinkNest .. => true
  | _ => false
def jNest : List Cond := lw_tbl.filter jIsNest
theorem jNest_tbl : ∀ w ∈ jNest, w ∈ lw_tbl := fun _ h => (List.mem_filter.mp h).1
theorem jH {w : Cond} (h : w ∈ lw_tbl) (g : jIsNest w = true) : w ∈ jNest := List.mem_filter.mpr ⟨h, g⟩
theorem jNest_on {w : Cond} (h : w ∈ jNest) : w.onTables = true := by
  have h2 := (List.mem_filter.mp h).2
  cases w <;> first | rfl | (simp [jIsNest] at h2)
theorem jNest_warm {w : Cond} (h : w ∈ jNest) {s U : State} (hW : s.WarmedH U.vm) (hZ : va_Nw w s) : va_Nw w U := by
  have h2 := (List.mem_filter.mp h).2
  cases w <;> first | exact va_Nw.warmF hW hZ | exact va_Nw.warmM hW hZ | (simp [jIsNest] at h2)
theorem jgd {w : Cond} (h : w ∈ lw_tbl) (g : goodWord w = true) : w ∈ jAll := List.mem_filter.mpr ⟨h, g⟩
theorem kini_L : Cond.initialized RL ∈ jAll := jgd (jM1 (List.mem_of_getElem? (i := 0) rfl)) rfl
theorem kini_X5 : Cond.initialized RX5 ∈ jAll := jgd (jM1 (List.mem_of_getElem? (i := 1) rfl)) rfl
theorem kini_X4 : Cond.initialized RX4 ∈ jAll := jgd (jM1 (List.mem_of_getElem? (i := 2) rfl)) rfl
theorem kini_X1 : Cond.initialized RX1 ∈ jAll := jgd (jM1 (List.mem_of_getElem? (i := 3) rfl)) rfl
theorem kini_X2 : Cond.initialized RX2 ∈ jAll := jgd (jM1 (List.mem_of_getElem? (i := 4) rfl)) rfl
theorem kini_X3 : Cond.initialized RX3 ∈ jAll := jgd (jM1 (List.mem_of_getElem? (i := 5) rfl)) rfl
theorem kini_X0 : Cond.initialized RX0 ∈ jAll := jgd (jM1 (List.mem_of_getElem? (i := 6) rfl)) rfl
theorem kini__java_lang_Throwable_ : Cond.initialized "java/lang/Throwable" ∈ jAll := jgd (jM1 (List.mem_of_getElem? (i := 7) rfl)) rfl
theorem kini__java_lang_Exception_ : Cond.initialized "java/lang/Exception" ∈ jAll := jgd (jM1 (List.mem_of_getElem? (i := 8) rfl)) rfl
theorem kini__java_lang_RuntimeException_ : Cond.initialized "java/lang/RuntimeException" ∈ jAll := jgd (jM1 (List.mem_of_getElem? (i := 9) rfl)) rfl
theorem kini__java_lang_IllegalArgumentException_ : Cond.initialized "java/lang/IllegalArgumentException" ∈ jAll := jgd (jM1 (List.mem_of_getElem? (i := 10) rfl)) rfl
theorem kini__java_lang_IllegalStateException_ : Cond.initialized "java/lang/IllegalStateException" ∈ jAll := jgd (jM1 (List.mem_of_getElem? (i := 11) rfl)) rfl
theorem kini__java_lang_IndexOutOfBoundsException_ : Cond.initialized "java/lang/IndexOutOfBoundsException" ∈ jAll := jgd (jM1 (List.mem_of_getElem? (i := 12) rfl)) rfl
theorem kini__java_util_NoSuchElementException_ : Cond.initialized "java/util/NoSuchElementException" ∈ jAll := jgd (jM1 (List.mem_of_getElem? (i := 13) rfl)) rfl
theorem kcl_L_16 : Cond.classLink RL 16 RX5 ∈ jAll := jgd (jM1 (List.mem_of_getElem? (i := 14) rfl)) rfl
theorem kin_X5 : Cond.instantiable RX5 5 ∈ jAll := jgd (jM1 (List.mem_of_getElem? (i := 15) rfl)) rfl
theorem kml_L_40 : Cond.methodLink RL 40 yX5_init ∈ jAll := jgd (jM1 (List.mem_of_getElem? (i := 16) rfl)) rfl
theorem kim_X5_init : Cond.instanceMethod yX5_init ∈ jAll := jgd (jM1 (List.mem_of_getElem? (i := 17) rfl)) rfl
theorem kco_X5_init : Cond.code yX5_init cX5_init 1 none ∈ jAll := jgd (jM1 (List.mem_of_getElem? (i := 18) rfl)) rfl
theorem kml_X5_1 : Cond.methodLink RX5 1 objectInit ∈ jAll := jgd (jM1 (List.mem_of_getElem? (i := 19) rfl)) rfl
theorem kim_Object__init___V : Cond.instanceMethod objectInit ∈ jAll := jgd (jM1 (List.mem_of_getElem? (i := 20) rfl)) rfl
theorem kco_objectInit : Cond.code objectInit ⟨#[0xb1]⟩ 1 none ∈ jAll := jgd (jM1 (List.mem_of_getElem? (i := 21) rfl)) rfl
theorem kcl_X5_7 : Cond.classLink RX5 7 RX4 ∈ jAll := jgd (jM1 (List.mem_of_getElem? (i := 22) rfl)) rfl
theorem kin_X4 : Cond.instantiable RX4 13 ∈ jAll := jgd (jM1 (List.mem_of_getElem? (i := 23) rfl)) rfl
theorem kml_X5_9 : Cond.methodLink RX5 9 yX4_init ∈ jAll := jgd (jM1 (List.mem_of_getElem? (i := 24) rfl)) rfl
theorem kim_X4_init : Cond.instanceMethod yX4_init ∈ jAll := jgd (jM1 (List.mem_of_getElem? (i := 25) rfl)) rfl
theorem kco_X4_init : Cond.code yX4_init cX4_init 2 none ∈ jAll := jgd (jM1 (List.mem_of_getElem? (i := 26) rfl)) rfl
theorem kml_X4_3 : Cond.methodLink RX4 3 objectInit ∈ jAll := jgd (jM1 (List.mem_of_getElem? (i := 27) rfl)) rfl
theorem kfl_X4_46 : Cond.fieldLink RX4 46 "MatchingService$Pool" "resources" "I" ∈ jAll := jgd (jM1 (List.mem_of_getElem? (i := 28) rfl)) rfl
theorem kfn_X5_59 : Cond.fieldLinkNest RX5 59 "MatchingService$Pool" "resources" "I" "MatchingService" ∈ jNest := jH (jM1 (List.mem_of_getElem? (i := 29) rfl)) rfl
theorem kfn_X2_51 : Cond.fieldLinkNest RX2 51 "MatchingService$Pool" "resources" "I" "MatchingService" ∈ jNest := jH (jM1 (List.mem_of_getElem? (i := 30) rfl)) rfl
theorem kfl_X4_9 : Cond.fieldLink RX4 9 "MatchingService$Pool" "capacity" "[I" ∈ jAll := jgd (jM1 (List.mem_of_getElem? (i := 31) rfl)) rfl
theorem kfl_X4_15 : Cond.fieldLink RX4 15 "MatchingService$Pool" "load" "[I" ∈ jAll := jgd (jM1 (List.mem_of_getElem? (i := 32) rfl)) rfl
theorem kfl_X4_18 : Cond.fieldLink RX4 18 "MatchingService$Pool" "quota" "[I" ∈ jAll := jgd (jM1 (List.mem_of_getElem? (i := 33) rfl)) rfl
theorem kfn_X5_97 : Cond.fieldLinkNest RX5 97 "MatchingService$Pool" "quota" "[I" "MatchingService" ∈ jNest := jH (jM1 (List.mem_of_getElem? (i := 34) rfl)) rfl
theorem kfl_X4_21 : Cond.fieldLink RX4 21 "MatchingService$Pool" "weight" "[I" ∈ jAll := jgd (jM1 (List.mem_of_getElem? (i := 35) rfl)) rfl
theorem kfn_X3_55 : Cond.fieldLinkNest RX3 55 "MatchingService$Pool" "weight" "[I" "MatchingService" ∈ jNest := jH (jM1 (List.mem_of_getElem? (i := 36) rfl)) rfl
theorem kfn_X5_100 : Cond.fieldLinkNest RX5 100 "MatchingService$Pool" "weight" "[I" "MatchingService" ∈ jNest := jH (jM1 (List.mem_of_getElem? (i := 37) rfl)) rfl
theorem kfl_X4_24 : Cond.fieldLink RX4 24 "MatchingService$Pool" "assigned" "[I" ∈ jAll := jgd (jM1 (List.mem_of_getElem? (i := 38) rfl)) rfl
theorem kfn_X3_52 : Cond.fieldLinkNest RX3 52 "MatchingService$Pool" "assigned" "[I" "MatchingService" ∈ jNest := jH (jM1 (List.mem_of_getElem? (i := 39) rfl)) rfl
theorem kfn_X3_27 : Cond.fieldLinkNest RX3 27 "MatchingService$Pool" "requests" "I" "MatchingService" ∈ jNest := jH (jM1 (List.mem_of_getElem? (i := 40) rfl)) rfl
theorem kfn_X2_54 : Cond.fieldLinkNest RX2 54 "MatchingService$Pool" "requests" "I" "MatchingService" ∈ jNest := jH (jM1 (List.mem_of_getElem? (i := 41) rfl)) rfl
theorem kfn_X5_119 : Cond.fieldLinkNest RX5 119 "MatchingService$Pool" "requests" "I" "MatchingService" ∈ jNest := jH (jM1 (List.mem_of_getElem? (i := 42) rfl)) rfl
theorem kfl_X4_56 : Cond.fieldLink RX4 56 "MatchingService$Pool" "requests" "I" ∈ jAll := jgd (jM1 (List.mem_of_getElem? (i := 43) rfl)) rfl
theorem kfl_X4_27 : Cond.fieldLink RX4 27 "MatchingService$Pool" "group" "[I" ∈ jAll := jgd (jM1 (List.mem_of_getElem? (i := 44) rfl)) rfl
theorem kfn_X3_44 : Cond.fieldLinkNest RX3 44 "MatchingService$Pool" "group" "[I" "MatchingService" ∈ jNest := jH (jM1 (List.mem_of_getElem? (i := 45) rfl)) rfl
theorem kfl_X4_30 : Cond.fieldLink RX4 30 "MatchingService$Pool" "accepted" "[I" ∈ jAll := jgd (jM1 (List.mem_of_getElem? (i := 46) rfl)) rfl
theorem kfn_X2_34 : Cond.fieldLinkNest RX2 34 "MatchingService$Pool" "accepted" "[I" "MatchingService" ∈ jNest := jH (jM1 (List.mem_of_getElem? (i := 47) rfl)) rfl
theorem kfl_X4_33 : Cond.fieldLink RX4 33 "MatchingService$Pool" "place" "[I" ∈ jAll := jgd (jM1 (List.mem_of_getElem? (i := 48) rfl)) rfl
theorem kfn_X2_60 : Cond.fieldLinkNest RX2 60 "MatchingService$Pool" "place" "[I" "MatchingService" ∈ jNest := jH (jM1 (List.mem_of_getElem? (i := 49) rfl)) rfl
theorem kfn_X5_168 : Cond.fieldLinkNest RX5 168 "MatchingService$Pool" "place" "[I" "MatchingService" ∈ jNest := jH (jM1 (List.mem_of_getElem? (i := 50) rfl)) rfl
theorem kfl_X4_36 : Cond.fieldLink RX4 36 "MatchingService$Pool" "moves" "[I" ∈ jAll := jgd (jM1 (List.mem_of_getElem? (i := 51) rfl)) rfl
theorem kfn_X5_171 : Cond.fieldLinkNest RX5 171 "MatchingService$Pool" "moves" "[I" "MatchingService" ∈ jNest := jH (jM1 (List.mem_of_getElem? (i := 52) rfl)) rfl
theorem kfl_X4_39 : Cond.fieldLink RX4 39 "MatchingService$Pool" "pathLimit" "I" ∈ jAll := jgd (jM1 (List.mem_of_getElem? (i := 53) rfl)) rfl
theorem kfn_X3_67 : Cond.fieldLinkNest RX3 67 "MatchingService$Pool" "pathLimit" "I" "MatchingService" ∈ jNest := jH (jM1 (List.mem_of_getElem? (i := 54) rfl)) rfl
theorem kfn_X5_110 : Cond.fieldLinkNest RX5 110 "MatchingService$Pool" "pathLimit" "I" "MatchingService" ∈ jNest := jH (jM1 (List.mem_of_getElem? (i := 55) rfl)) rfl
theorem kfl_X4_43 : Cond.fieldLink RX4 43 "MatchingService$Pool" "moveLimit" "I" ∈ jAll := jgd (jM1 (List.mem_of_getElem? (i := 56) rfl)) rfl
theorem kfn_X5_113 : Cond.fieldLinkNest RX5 113 "MatchingService$Pool" "moveLimit" "I" "MatchingService" ∈ jNest := jH (jM1 (List.mem_of_getElem? (i := 57) rfl)) rfl
theorem kac_int : Cond.arrayClass .int ∈ jAll := jgd (jM1 (List.mem_of_getElem? (i := 85) rfl)) rfl
theorem kcl_X5_16 : Cond.classLink RX5 16 RX1 ∈ jAll := jgd (jM1 (List.mem_of_getElem? (i := 86) rfl)) rfl
theorem kin_X1 : Cond.instantiable RX1 3 ∈ jAll := jgd (jM1 (List.mem_of_getElem? (i := 87) rfl)) rfl
theorem kmn_X5_18 : Cond.methodLinkNest RX5 18 yX1_init "MatchingService" ∈ jNest := jH (jM1 (List.mem_of_getElem? (i := 88) rfl)) rfl
theorem kim_X1_init : Cond.instanceMethod yX1_init ∈ jAll := jgd (jM1 (List.mem_of_getElem? (i := 89) rfl)) rfl
theorem kco_X1_init : Cond.code yX1_init cX1_init 1 none ∈ jAll := jgd (jM1 (List.mem_of_getElem? (i := 90) rfl)) rfl
theorem kml_X1_3 : Cond.methodLink RX1 3 objectInit ∈ jAll := jgd (jM1 (List.mem_of_getElem? (i := 91) rfl)) rfl
theorem kfl_X1_11 : Cond.fieldLink RX1 11 "MatchingService$MoveLog" "request" "[I" ∈ jAll := jgd (jM1 (List.mem_of_getElem? (i := 92) rfl)) rfl
theorem kfn_X5_180 : Cond.fieldLinkNest RX5 180 "MatchingService$MoveLog" "request" "[I" "MatchingService" ∈ jNest := jH (jM1 (List.mem_of_getElem? (i := 93) rfl)) rfl
theorem kfl_X1_15 : Cond.fieldLink RX1 15 "MatchingService$MoveLog" "target" "[I" ∈ jAll := jgd (jM1 (List.mem_of_getElem? (i := 94) rfl)) rfl
theorem kfn_X5_183 : Cond.fieldLinkNest RX5 183 "MatchingService$MoveLog" "target" "[I" "MatchingService" ∈ jNest := jH (jM1 (List.mem_of_getElem? (i := 95) rfl)) rfl
theorem kfl_X1_18 : Cond.fieldLink RX1 18 "MatchingService$MoveLog" "size" "I" ∈ jAll := jgd (jM1 (List.mem_of_getElem? (i := 96) rfl)) rfl
theorem kfn_X5_174 : Cond.fieldLinkNest RX5 174 "MatchingService$MoveLog" "size" "I" "MatchingService" ∈ jNest := jH (jM1 (List.mem_of_getElem? (i := 97) rfl)) rfl
theorem kcl_X5_23 : Cond.classLink RX5 23 RX2 ∈ jAll := jgd (jM1 (List.mem_of_getElem? (i := 105) rfl)) rfl
theorem kin_X2 : Cond.instantiable RX2 6 ∈ jAll := jgd (jM1 (List.mem_of_getElem? (i := 106) rfl)) rfl
theorem kml_X5_25 : Cond.methodLink RX5 25 yX2_init ∈ jAll := jgd (jM1 (List.mem_of_getElem? (i := 107) rfl)) rfl
theorem kim_X2_init : Cond.instanceMethod yX2_init ∈ jAll := jgd (jM1 (List.mem_of_getElem? (i := 108) rfl)) rfl
theorem kco_X2_init : Cond.code yX2_init cX2_init 2 none ∈ jAll := jgd (jM1 (List.mem_of_getElem? (i := 109) rfl)) rfl
theorem kml_X2_3 : Cond.methodLink RX2 3 objectInit ∈ jAll := jgd (jM1 (List.mem_of_getElem? (i := 110) rfl)) rfl
theorem kfl_X2_24 : Cond.fieldLink RX2 24 "MatchingService$PathSearch" "pool" "LMatchingService$Pool;" ∈ jAll := jgd (jM1 (List.mem_of_getElem? (i := 111) rfl)) rfl
theorem kfl_X2_9 : Cond.fieldLink RX2 9 "MatchingService$PathSearch" "successors" "[I" ∈ jAll := jgd (jM1 (List.mem_of_getElem? (i := 112) rfl)) rfl
theorem kfl_X2_15 : Cond.fieldLink RX2 15 "MatchingService$PathSearch" "layer" "[I" ∈ jAll := jgd (jM1 (List.mem_of_getElem? (i := 113) rfl)) rfl
theorem kfl_X2_18 : Cond.fieldLink RX2 18 "MatchingService$PathSearch" "resource" "[I" ∈ jAll := jgd (jM1 (List.mem_of_getElem? (i := 114) rfl)) rfl
theorem kfn_X3_74 : Cond.fieldLinkNest RX3 74 "MatchingService$PathSearch" "resource" "[I" "MatchingService" ∈ jNest := jH (jM1 (List.mem_of_getElem? (i := 115) rfl)) rfl
theorem kfl_X2_21 : Cond.fieldLink RX2 21 "MatchingService$PathSearch" "request" "[I" ∈ jAll := jgd (jM1 (List.mem_of_getElem? (i := 116) rfl)) rfl
theorem kfn_X3_84 : Cond.fieldLinkNest RX3 84 "MatchingService$PathSearch" "request" "[I" "MatchingService" ∈ jNest := jH (jM1 (List.mem_of_getElem? (i := 117) rfl)) rfl
theorem kfl_X2_43 : Cond.fieldLink RX2 43 "MatchingService$PathSearch" "length" "I" ∈ jAll := jgd (jM1 (List.mem_of_getElem? (i := 118) rfl)) rfl
theorem kfn_X3_81 : Cond.fieldLinkNest RX3 81 "MatchingService$PathSearch" "length" "I" "MatchingService" ∈ jNest := jH (jM1 (List.mem_of_getElem? (i := 119) rfl)) rfl
theorem kcl_X5_32 : Cond.classLink RX5 32 RX3 ∈ jAll := jgd (jM1 (List.mem_of_getElem? (i := 133) rfl)) rfl
theorem kin_X3 : Cond.instantiable RX3 4 ∈ jAll := jgd (jM1 (List.mem_of_getElem? (i := 134) rfl)) rfl
theorem kml_X5_34 : Cond.methodLink RX5 34 yX3_init ∈ jAll := jgd (jM1 (List.mem_of_getElem? (i := 135) rfl)) rfl
theorem kim_X3_init : Cond.instanceMethod yX3_init ∈ jAll := jgd (jM1 (List.mem_of_getElem? (i := 136) rfl)) rfl
theorem kco_X3_init : Cond.code yX3_init cX3_init 4 none ∈ jAll := jgd (jM1 (List.mem_of_getElem? (i := 137) rfl)) rfl
theorem kml_X3_3 : Cond.methodLink RX3 3 objectInit ∈ jAll := jgd (jM1 (List.mem_of_getElem? (i := 138) rfl)) rfl
theorem kfl_X3_15 : Cond.fieldLink RX3 15 "MatchingService$Placer" "pool" "LMatchingService$Pool;" ∈ jAll := jgd (jM1 (List.mem_of_getElem? (i := 139) rfl)) rfl
theorem kfl_X3_19 : Cond.fieldLink RX3 19 "MatchingService$Placer" "paths" "LMatchingService$PathSearch;" ∈ jAll := jgd (jM1 (List.mem_of_getElem? (i := 140) rfl)) rfl
theorem kfl_X3_23 : Cond.fieldLink RX3 23 "MatchingService$Placer" "log" "LMatchingService$MoveLog;" ∈ jAll := jgd (jM1 (List.mem_of_getElem? (i := 141) rfl)) rfl
theorem kfl_X3_9 : Cond.fieldLink RX3 9 "MatchingService$Placer" "tried" "[Z" ∈ jAll := jgd (jM1 (List.mem_of_getElem? (i := 142) rfl)) rfl
theorem kac_boolean : Cond.arrayClass .boolean ∈ jAll := jgd (jM1 (List.mem_of_getElem? (i := 152) rfl)) rfl
theorem kcl_X5_41 : Cond.classLink RX5 41 RX0 ∈ jAll := jgd (jM1 (List.mem_of_getElem? (i := 153) rfl)) rfl
theorem kin_X0 : Cond.instantiable RX0 10 ∈ jAll := jgd (jM1 (List.mem_of_getElem? (i := 154) rfl)) rfl
theorem kml_X5_43 : Cond.methodLink RX5 43 yX0_init ∈ jAll := jgd (jM1 (List.mem_of_getElem? (i := 155) rfl)) rfl
theorem kim_X0_init : Cond.instanceMethod yX0_init ∈ jAll := jgd (jM1 (List.mem_of_getElem? (i := 156) rfl)) rfl
theorem kco_X0_init : Cond.code yX0_init cX0_init 2 none ∈ jAll := jgd (jM1 (List.mem_of_getElem? (i := 157) rfl)) rfl
theorem kml_X0_3 : Cond.methodLink RX0 3 objectInit ∈ jAll := jgd (jM1 (List.mem_of_getElem? (i := 158) rfl)) rfl
theorem kfl_X0_37 : Cond.fieldLink RX0 37 "MatchingService$Flow" "pool" "LMatchingService$Pool;" ∈ jAll := jgd (jM1 (List.mem_of_getElem? (i := 159) rfl)) rfl
theorem kfl_X0_9 : Cond.fieldLink RX0 9 "MatchingService$Flow" "node" "[I" ∈ jAll := jgd (jM1 (List.mem_of_getElem? (i := 160) rfl)) rfl
theorem kfl_X0_15 : Cond.fieldLink RX0 15 "MatchingService$Flow" "accepted" "[I" ∈ jAll := jgd (jM1 (List.mem_of_getElem? (i := 161) rfl)) rfl
theorem kfl_X0_18 : Cond.fieldLink RX0 18 "MatchingService$Flow" "load" "[I" ∈ jAll := jgd (jM1 (List.mem_of_getElem? (i := 162) rfl)) rfl
theorem kfl_X0_21 : Cond.fieldLink RX0 21 "MatchingService$Flow" "used" "[I" ∈ jAll := jgd (jM1 (List.mem_of_getElem? (i := 163) rfl)) rfl
theorem kfl_X0_24 : Cond.fieldLink RX0 24 "MatchingService$Flow" "queue" "[I" ∈ jAll := jgd (jM1 (List.mem_of_getElem? (i := 164) rfl)) rfl
theorem kfl_X0_27 : Cond.fieldLink RX0 27 "MatchingService$Flow" "seen" "[Z" ∈ jAll := jgd (jM1 (List.mem_of_getElem? (i := 165) rfl)) rfl
theorem kfl_X0_31 : Cond.fieldLink RX0 31 "MatchingService$Flow" "before" "[I" ∈ jAll := jgd (jM1 (List.mem_of_getElem? (i := 166) rfl)) rfl
theorem kfl_X0_34 : Cond.fieldLink RX0 34 "MatchingService$Flow" "carried" "[I" ∈ jAll := jgd (jM1 (List.mem_of_getElem? (i := 167) rfl)) rfl
theorem kfl_X5_10 : Cond.fieldLink RX5 10 "MatchingService" "pool" "LMatchingService$Pool;" ∈ jAll := jgd (jM1 (List.mem_of_getElem? (i := 189) rfl)) rfl
theorem kfl_X5_19 : Cond.fieldLink RX5 19 "MatchingService" "log" "LMatchingService$MoveLog;" ∈ jAll := jgd (jM1 (List.mem_of_getElem? (i := 190) rfl)) rfl
theorem kfl_X5_28 : Cond.fieldLink RX5 28 "MatchingService" "paths" "LMatchingService$PathSearch;" ∈ jAll := jgd (jM1 (List.mem_of_getElem? (i := 191) rfl)) rfl
theorem kfl_X5_37 : Cond.fieldLink RX5 37 "MatchingService" "placer" "LMatchingService$Placer;" ∈ jAll := jgd (jM1 (List.mem_of_getElem? (i := 192) rfl)) rfl
theorem kfl_X5_44 : Cond.fieldLink RX5 44 "MatchingService" "flow" "LMatchingService$Flow;" ∈ jAll := jgd (jM1 (List.mem_of_getElem? (i := 193) rfl)) rfl
theorem kml_L_52 : Cond.methodLink RL 52 yX5_addResource ∈ jAll := jgd (jM1 (List.mem_of_getElem? (i := 205) rfl)) rfl
theorem kim_X5_addResource : Cond.instanceMethod yX5_addResource ∈ jAll := jgd (jM1 (List.mem_of_getElem? (i := 206) rfl)) rfl
theorem kse_X5_addResource : Cond.selects RX5 yX5_addResource yX5_addResource ∈ jAll := jgd (jM1 (List.mem_of_getElem? (i := 207) rfl)) rfl
theorem kco_X5_addResource : Cond.code yX5_addResource cX5_addResource 3 (some .int) ∈ jAll := jgd (jM1 (List.mem_of_getElem? (i := 208) rfl)) rfl
theorem kml_X5_48 : Cond.methodLink RX5 48 yX5_isWithin ∈ jAll := jgd (jM1 (List.mem_of_getElem? (i := 209) rfl)) rfl
theorem kst_X5_isWithin : Cond.static yX5_isWithin ∈ jAll := jgd (jM1 (List.mem_of_getElem? (i := 210) rfl)) rfl
theorem kco_X5_isWithin : Cond.code yX5_isWithin cX5_isWithin 3 (some .boolean) ∈ jAll := jgd (jM1 (List.mem_of_getElem? (i := 211) rfl)) rfl
theorem kcl_X5_52 : Cond.classLink RX5 52 "java/lang/IllegalArgumentException" ∈ jAll := jgd (jM1 (List.mem_of_getElem? (i := 212) rfl)) rfl
theorem kin__java_lang_IllegalArgumentException_ : Cond.instantiable "java/lang/IllegalArgumentException" 6 ∈ jAll := jgd (jM1 (List.mem_of_getElem? (i := 213) rfl)) rfl
theorem kfl__java_lang_Throwable__198 : Cond.fieldLink "java/lang/Throwable" 198 "java/lang/Throwable" "backtrace" "Ljava/lang/Object;" ∈ jAll := jgd (jM1 (List.mem_of_getElem? (i := 233) rfl)) rfl
theorem kim_Throwable__init___V : Cond.instanceMethod ⟨"java/lang/Throwable", "<init>", "()V"⟩ ∈ jAll := jgd (jM1 (List.mem_of_getElem? (i := 235) rfl)) rfl
theorem kml__java_lang_Throwable__1 : Cond.methodLink "java/lang/Throwable" 1 objectInit ∈ jAll := jgd (jM1 (List.mem_of_getElem? (i := 237) rfl)) rfl
theorem kfl__java_lang_Throwable__13 : Cond.fieldLink "java/lang/Throwable" 13 "java/lang/Throwable" "UNASSIGNED_STACK" "[Ljava/lang/StackTraceElement;" ∈ jAll := jgd (jM1 (List.mem_of_getElem? (i := 238) rfl)) rfl
theorem kfl__java_lang_Throwable__20 : Cond.fieldLink "java/lang/Throwable" 20 "java/lang/Throwable" "SUPPRESSED_SENTINEL" "Ljava/util/List;" ∈ jAll := jgd (jM2 (List.mem_of_getElem? (i := 0) rfl)) rfl
theorem kml__java_lang_Throwable__27 : Cond.methodLink "java/lang/Throwable" 27 ⟨"java/lang/Throwable", "fillInStackTrace", "()Ljava/lang/Throwable;"⟩ ∈ jAll := jgd (jM2 (List.mem_of_getElem? (i := 2) rfl)) rfl
theorem kim_Throwable_fillInStackTrace__Ljava_lang_Throwable_ : Cond.instanceMethod ⟨"java/lang/Throwable", "fillInStackTrace", "()Ljava/lang/Throwable;"⟩ ∈ jAll := jgd (jM2 (List.mem_of_getElem? (i := 3) rfl)) rfl
theorem kml__java_lang_Throwable__202 : Cond.methodLink "java/lang/Throwable" 202 ⟨"java/lang/Throwable", "fillInStackTrace", "(I)Ljava/lang/Throwable;"⟩ ∈ jAll := jgd (jM2 (List.mem_of_getElem? (i := 9) rfl)) rfl
theorem kim_Throwable_fillInStackTrace_I_Ljava_lang_Throwable_ : Cond.instanceMethod ⟨"java/lang/Throwable", "fillInStackTrace", "(I)Ljava/lang/Throwable;"⟩ ∈ jAll := jgd (jM2 (List.mem_of_getElem? (i := 11) rfl)) rfl
theorem kin__java_lang_Throwable_ : Cond.instantiable "java/lang/Throwable" 6 ∈ jAll := jgd (jM2 (List.mem_of_getElem? (i := 12) rfl)) rfl
theorem kml_X5_56 : Cond.methodLink RX5 56 ⟨"java/lang/IllegalArgumentException", "<init>", "(Ljava/lang/String;)V"⟩ ∈ jAll := jgd (jM2 (List.mem_of_getElem? (i := 15) rfl)) rfl
theorem kim_IllegalArgumentException__init__Ljava_lang_String__V : Cond.instanceMethod ⟨"java/lang/IllegalArgumentException", "<init>", "(Ljava/lang/String;)V"⟩ ∈ jAll := jgd (jM2 (List.mem_of_getElem? (i := 16) rfl)) rfl
theorem kml__java_lang_IllegalArgumentException__7 : Cond.methodLink "java/lang/IllegalArgumentException" 7 ⟨"java/lang/RuntimeException", "<init>", "(Ljava/lang/String;)V"⟩ ∈ jAll := jgd (jM2 (List.mem_of_getElem? (i := 18) rfl)) rfl
theorem kim_RuntimeException__init__Ljava_lang_String__V : Cond.instanceMethod ⟨"java/lang/RuntimeException", "<init>", "(Ljava/lang/String;)V"⟩ ∈ jAll := jgd (jM2 (List.mem_of_getElem? (i := 19) rfl)) rfl
theorem kml__java_lang_RuntimeException__7 : Cond.methodLink "java/lang/RuntimeException" 7 ⟨"java/lang/Exception", "<init>", "(Ljava/lang/String;)V"⟩ ∈ jAll := jgd (jM2 (List.mem_of_getElem? (i := 21) rfl)) rfl
theorem kim_Exception__init__Ljava_lang_String__V : Cond.instanceMethod ⟨"java/lang/Exception", "<init>", "(Ljava/lang/String;)V"⟩ ∈ jAll := jgd (jM2 (List.mem_of_getElem? (i := 22) rfl)) rfl
theorem kml__java_lang_Exception__7 : Cond.methodLink "java/lang/Exception" 7 ⟨"java/lang/Throwable", "<init>", "(Ljava/lang/String;)V"⟩ ∈ jAll := jgd (jM2 (List.mem_of_getElem? (i := 24) rfl)) rfl
theorem kim_Throwable__init__Ljava_lang_String__V : Cond.instanceMethod ⟨"java/lang/Throwable", "<init>", "(Ljava/lang/String;)V"⟩ ∈ jAll := jgd (jM2 (List.mem_of_getElem? (i := 25) rfl)) rfl
theorem kfl__java_lang_Throwable__31 : Cond.fieldLink "java/lang/Throwable" 31 "java/lang/Throwable" "detailMessage" "Ljava/lang/String;" ∈ jAll := jgd (jM2 (List.mem_of_getElem? (i := 28) rfl)) rfl
theorem kfl__java_lang_Throwable__7 : Cond.fieldLink "java/lang/Throwable" 7 "java/lang/Throwable" "cause" "Ljava/lang/Throwable;" ∈ jAll := jgd (jM2 (List.mem_of_getElem? (i := 29) rfl)) rfl
theorem kfl__java_lang_Throwable__17 : Cond.fieldLink "java/lang/Throwable" 17 "java/lang/Throwable" "stackTrace" "[Ljava/lang/StackTraceElement;" ∈ jAll := jgd (jM2 (List.mem_of_getElem? (i := 30) rfl)) rfl
theorem kfl__java_lang_Throwable__24 : Cond.fieldLink "java/lang/Throwable" 24 "java/lang/Throwable" "suppressedExceptions" "Ljava/util/List;" ∈ jAll := jgd (jM2 (List.mem_of_getElem? (i := 31) rfl)) rfl
theorem kac_byte : Cond.arrayClass .byte ∈ jAll := jgd (jM2 (List.mem_of_getElem? (i := 40) rfl)) rfl
theorem kcl_X5_63 : Cond.classLink RX5 63 "java/lang/IllegalStateException" ∈ jAll := jgd (jM2 (List.mem_of_getElem? (i := 41) rfl)) rfl
theorem kin__java_lang_IllegalStateException_ : Cond.instantiable "java/lang/IllegalStateException" 6 ∈ jAll := jgd (jM2 (List.mem_of_getElem? (i := 42) rfl)) rfl
theorem kml_X5_67 : Cond.methodLink RX5 67 ⟨"java/lang/IllegalStateException", "<init>", "(Ljava/lang/String;)V"⟩ ∈ jAll := jgd (jM2 (List.mem_of_getElem? (i := 51) rfl)) rfl
theorem kim_IllegalStateException__init__Ljava_lang_String__V : Cond.instanceMethod ⟨"java/lang/IllegalStateException", "<init>", "(Ljava/lang/String;)V"⟩ ∈ jAll := jgd (jM2 (List.mem_of_getElem? (i := 52) rfl)) rfl
theorem kml__java_lang_IllegalStateException__7 : Cond.methodLink "java/lang/IllegalStateException" 7 ⟨"java/lang/RuntimeException", "<init>", "(Ljava/lang/String;)V"⟩ ∈ jAll := jgd (jM2 (List.mem_of_getElem? (i := 54) rfl)) rfl
theorem kml_X5_68 : Cond.methodLink RX5 68 yX1_clear ∈ jAll := jgd (jM2 (List.mem_of_getElem? (i := 57) rfl)) rfl
theorem kim_X1_clear : Cond.instanceMethod yX1_clear ∈ jAll := jgd (jM2 (List.mem_of_getElem? (i := 58) rfl)) rfl
theorem kse_X1_clear : Cond.selects RX1 yX1_clear yX1_clear ∈ jAll := jgd (jM2 (List.mem_of_getElem? (i := 59) rfl)) rfl
theorem kco_X1_clear : Cond.code yX1_clear cX1_clear 1 none ∈ jAll := jgd (jM2 (List.mem_of_getElem? (i := 60) rfl)) rfl
theorem kml_X5_71 : Cond.methodLink RX5 71 yX4_openResource ∈ jAll := jgd (jM2 (List.mem_of_getElem? (i := 61) rfl)) rfl
theorem kim_X4_openResource : Cond.instanceMethod yX4_openResource ∈ jAll := jgd (jM2 (List.mem_of_getElem? (i := 62) rfl)) rfl
theorem kse_X4_openResource : Cond.selects RX4 yX4_openResource yX4_openResource ∈ jAll := jgd (jM2 (List.mem_of_getElem? (i := 63) rfl)) rfl
theorem kco_X4_openResource : Cond.code yX4_openResource cX4_openResource 3 (some .int) ∈ jAll := jgd (jM2 (List.mem_of_getElem? (i := 64) rfl)) rfl
theorem kml_X5_75 : Cond.methodLink RX5 75 yX3_runOnce ∈ jAll := jgd (jM2 (List.mem_of_getElem? (i := 65) rfl)) rfl
theorem kim_X3_runOnce : Cond.instanceMethod yX3_runOnce ∈ jAll := jgd (jM2 (List.mem_of_getElem? (i := 66) rfl)) rfl
theorem kse_X3_runOnce : Cond.selects RX3 yX3_runOnce yX3_runOnce ∈ jAll := jgd (jM2 (List.mem_of_getElem? (i := 67) rfl)) rfl
theorem kco_X3_runOnce : Cond.code yX3_runOnce cX3_runOnce 4 (some .int) ∈ jAll := jgd (jM2 (List.mem_of_getElem? (i := 68) rfl)) rfl
theorem kml_X3_33 : Cond.methodLink RX3 33 yX3_nextToTry ∈ jAll := jgd (jM2 (List.mem_of_getElem? (i := 69) rfl)) rfl
theorem kim_X3_nextToTry : Cond.instanceMethod yX3_nextToTry ∈ jAll := jgd (jM2 (List.mem_of_getElem? (i := 71) rfl)) rfl
theorem kco_X3_nextToTry : Cond.code yX3_nextToTry cX3_nextToTry 3 (some .int) ∈ jAll := jgd (jM2 (List.mem_of_getElem? (i := 72) rfl)) rfl
theorem kml_X3_41 : Cond.methodLink RX3 41 yX4_isWaiting ∈ jAll := jgd (jM2 (List.mem_of_getElem? (i := 73) rfl)) rfl
theorem kim_X4_isWaiting : Cond.instanceMethod yX4_isWaiting ∈ jAll := jgd (jM2 (List.mem_of_getElem? (i := 74) rfl)) rfl
theorem kse_X4_isWaiting : Cond.selects RX4 yX4_isWaiting yX4_isWaiting ∈ jAll := jgd (jM2 (List.mem_of_getElem? (i := 75) rfl)) rfl
theorem kco_X4_isWaiting : Cond.code yX4_isWaiting cX4_isWaiting 2 (some .boolean) ∈ jAll := jgd (jM2 (List.mem_of_getElem? (i := 76) rfl)) rfl
theorem kml_X3_48 : Cond.methodLink RX3 48 yX3_isServedBefore ∈ jAll := jgd (jM2 (List.mem_of_getElem? (i := 77) rfl)) rfl
theorem kim_X3_isServedBefore : Cond.instanceMethod yX3_isServedBefore ∈ jAll := jgd (jM2 (List.mem_of_getElem? (i := 79) rfl)) rfl
theorem kco_X3_isServedBefore : Cond.code yX3_isServedBefore cX3_isServedBefore 5 (some .boolean) ∈ jAll := jgd (jM2 (List.mem_of_getElem? (i := 80) rfl)) rfl
theorem kml_X3_37 : Cond.methodLink RX3 37 yX3_tryToPlace ∈ jAll := jgd (jM2 (List.mem_of_getElem? (i := 81) rfl)) rfl
theorem kim_X3_tryToPlace : Cond.instanceMethod yX3_tryToPlace ∈ jAll := jgd (jM2 (List.mem_of_getElem? (i := 82) rfl)) rfl
theorem kse_X3_tryToPlace : Cond.selects RX3 yX3_tryToPlace yX3_tryToPlace ∈ jAll := jgd (jM2 (List.mem_of_getElem? (i := 83) rfl)) rfl
theorem kco_X3_tryToPlace : Cond.code yX3_tryToPlace cX3_tryToPlace 3 (some .boolean) ∈ jAll := jgd (jM2 (List.mem_of_getElem? (i := 84) rfl)) rfl
theorem kml_X3_58 : Cond.methodLink RX3 58 yX4_groupHasRoom ∈ jAll := jgd (jM2 (List.mem_of_getElem? (i := 85) rfl)) rfl
theorem kim_X4_groupHasRoom : Cond.instanceMethod yX4_groupHasRoom ∈ jAll := jgd (jM2 (List.mem_of_getElem? (i := 86) rfl)) rfl
theorem kse_X4_groupHasRoom : Cond.selects RX4 yX4_groupHasRoom yX4_groupHasRoom ∈ jAll := jgd (jM2 (List.mem_of_getElem? (i := 87) rfl)) rfl
theorem kco_X4_groupHasRoom : Cond.code yX4_groupHasRoom cX4_groupHasRoom 2 (some .boolean) ∈ jAll := jgd (jM2 (List.mem_of_getElem? (i := 88) rfl)) rfl
theorem kml_X3_61 : Cond.methodLink RX3 61 yX2_search ∈ jAll := jgd (jM2 (List.mem_of_getElem? (i := 89) rfl)) rfl
theorem kim_X2_search : Cond.instanceMethod yX2_search ∈ jAll := jgd (jM2 (List.mem_of_getElem? (i := 90) rfl)) rfl
theorem kse_X2_search : Cond.selects RX2 yX2_search yX2_search ∈ jAll := jgd (jM2 (List.mem_of_getElem? (i := 91) rfl)) rfl
theorem kco_X2_search : Cond.code yX2_search cX2_search 2 (some .int) ∈ jAll := jgd (jM2 (List.mem_of_getElem? (i := 92) rfl)) rfl
theorem kml_X2_28 : Cond.methodLink RX2 28 yX2_collectSuccessors ∈ jAll := jgd (jM2 (List.mem_of_getElem? (i := 93) rfl)) rfl
theorem kim_X2_collectSuccessors : Cond.instanceMethod yX2_collectSuccessors ∈ jAll := jgd (jM2 (List.mem_of_getElem? (i := 95) rfl)) rfl
theorem kco_X2_collectSuccessors : Cond.code yX2_collectSuccessors cX2_collectSuccessors 2 none ∈ jAll := jgd (jM2 (List.mem_of_getElem? (i := 96) rfl)) rfl
theorem kml_X2_57 : Cond.methodLink RX2 57 yX4_canBeMoved ∈ jAll := jgd (jM2 (List.mem_of_getElem? (i := 97) rfl)) rfl
theorem kim_X4_canBeMoved : Cond.instanceMethod yX4_canBeMoved ∈ jAll := jgd (jM2 (List.mem_of_getElem? (i := 98) rfl)) rfl
theorem kse_X4_canBeMoved : Cond.selects RX4 yX4_canBeMoved yX4_canBeMoved ∈ jAll := jgd (jM2 (List.mem_of_getElem? (i := 99) rfl)) rfl
theorem kco_X4_canBeMoved : Cond.code yX4_canBeMoved cX4_canBeMoved 2 (some .boolean) ∈ jAll := jgd (jM2 (List.mem_of_getElem? (i := 100) rfl)) rfl
theorem kml_X2_31 : Cond.methodLink RX2 31 yX2_buildLayers ∈ jAll := jgd (jM2 (List.mem_of_getElem? (i := 101) rfl)) rfl
theorem kim_X2_buildLayers : Cond.instanceMethod yX2_buildLayers ∈ jAll := jgd (jM2 (List.mem_of_getElem? (i := 103) rfl)) rfl
theorem kco_X2_buildLayers : Cond.code yX2_buildLayers cX2_buildLayers 3 none ∈ jAll := jgd (jM2 (List.mem_of_getElem? (i := 104) rfl)) rfl
theorem kml_X2_63 : Cond.methodLink RX2 63 yX4_resourceHasRoom ∈ jAll := jgd (jM2 (List.mem_of_getElem? (i := 105) rfl)) rfl
theorem kim_X4_resourceHasRoom : Cond.instanceMethod yX4_resourceHasRoom ∈ jAll := jgd (jM2 (List.mem_of_getElem? (i := 106) rfl)) rfl
theorem kse_X4_resourceHasRoom : Cond.selects RX4 yX4_resourceHasRoom yX4_resourceHasRoom ∈ jAll := jgd (jM2 (List.mem_of_getElem? (i := 107) rfl)) rfl
theorem kco_X4_resourceHasRoom : Cond.code yX4_resourceHasRoom cX4_resourceHasRoom 2 (some .boolean) ∈ jAll := jgd (jM2 (List.mem_of_getElem? (i := 108) rfl)) rfl
theorem kml_X2_66 : Cond.methodLink RX2 66 yX2_leadingTo ∈ jAll := jgd (jM2 (List.mem_of_getElem? (i := 109) rfl)) rfl
theorem kim_X2_leadingTo : Cond.instanceMethod yX2_leadingTo ∈ jAll := jgd (jM2 (List.mem_of_getElem? (i := 111) rfl)) rfl
theorem kco_X2_leadingTo : Cond.code yX2_leadingTo cX2_leadingTo 4 (some .int) ∈ jAll := jgd (jM2 (List.mem_of_getElem? (i := 112) rfl)) rfl
theorem kml_X2_39 : Cond.methodLink RX2 39 yX2_shortestFrom ∈ jAll := jgd (jM2 (List.mem_of_getElem? (i := 113) rfl)) rfl
theorem kim_X2_shortestFrom : Cond.instanceMethod yX2_shortestFrom ∈ jAll := jgd (jM2 (List.mem_of_getElem? (i := 115) rfl)) rfl
theorem kco_X2_shortestFrom : Cond.code yX2_shortestFrom cX2_shortestFrom 3 (some .int) ∈ jAll := jgd (jM2 (List.mem_of_getElem? (i := 116) rfl)) rfl
theorem kml_X2_47 : Cond.methodLink RX2 47 yX2_trace ∈ jAll := jgd (jM2 (List.mem_of_getElem? (i := 117) rfl)) rfl
theorem kim_X2_trace : Cond.instanceMethod yX2_trace ∈ jAll := jgd (jM2 (List.mem_of_getElem? (i := 119) rfl)) rfl
theorem kco_X2_trace : Cond.code yX2_trace cX2_trace 6 (some .boolean) ∈ jAll := jgd (jM2 (List.mem_of_getElem? (i := 120) rfl)) rfl
theorem kmn_X2_69 : Cond.methodLinkNest RX2 69 yX5_lowestResource "MatchingService" ∈ jNest := jH (jM2 (List.mem_of_getElem? (i := 121) rfl)) rfl
theorem kst_X5_lowestResource : Cond.static yX5_lowestResource ∈ jAll := jgd (jM2 (List.mem_of_getElem? (i := 122) rfl)) rfl
theorem kco_X5_lowestResource : Cond.code yX5_lowestResource cX5_lowestResource 2 (some .int) ∈ jAll := jgd (jM2 (List.mem_of_getElem? (i := 123) rfl)) rfl
theorem kml_X5_226 : Cond.methodLink RX5 226 yX5_hasBit ∈ jAll := jgd (jM2 (List.mem_of_getElem? (i := 124) rfl)) rfl
theorem kst_X5_hasBit : Cond.static yX5_hasBit ∈ jAll := jgd (jM2 (List.mem_of_getElem? (i := 125) rfl)) rfl
theorem kco_X5_hasBit : Cond.code yX5_hasBit cX5_hasBit 2 (some .boolean) ∈ jAll := jgd (jM2 (List.mem_of_getElem? (i := 126) rfl)) rfl
theorem kml_X2_72 : Cond.methodLink RX2 72 yX2_firstMovable ∈ jAll := jgd (jM2 (List.mem_of_getElem? (i := 127) rfl)) rfl
theorem kim_X2_firstMovable : Cond.instanceMethod yX2_firstMovable ∈ jAll := jgd (jM2 (List.mem_of_getElem? (i := 129) rfl)) rfl
theorem kco_X2_firstMovable : Cond.code yX2_firstMovable cX2_firstMovable 4 (some .int) ∈ jAll := jgd (jM2 (List.mem_of_getElem? (i := 130) rfl)) rfl
theorem kml_X3_70 : Cond.methodLink RX3 70 yX3_placeAlongPath ∈ jAll := jgd (jM2 (List.mem_of_getElem? (i := 131) rfl)) rfl
theorem kim_X3_placeAlongPath : Cond.instanceMethod yX3_placeAlongPath ∈ jAll := jgd (jM2 (List.mem_of_getElem? (i := 133) rfl)) rfl
theorem kco_X3_placeAlongPath : Cond.code yX3_placeAlongPath cX3_placeAlongPath 5 none ∈ jAll := jgd (jM2 (List.mem_of_getElem? (i := 134) rfl)) rfl
theorem kml_X3_77 : Cond.methodLink RX3 77 yX4_assign ∈ jAll := jgd (jM2 (List.mem_of_getElem? (i := 135) rfl)) rfl
theorem kim_X4_assign : Cond.instanceMethod yX4_assign ∈ jAll := jgd (jM2 (List.mem_of_getElem? (i := 136) rfl)) rfl
theorem kse_X4_assign : Cond.selects RX4 yX4_assign yX4_assign ∈ jAll := jgd (jM2 (List.mem_of_getElem? (i := 137) rfl)) rfl
theorem kco_X4_assign : Cond.code yX4_assign cX4_assign 3 none ∈ jAll := jgd (jM2 (List.mem_of_getElem? (i := 138) rfl)) rfl
theorem kml_X3_87 : Cond.methodLink RX3 87 yX4_move ∈ jAll := jgd (jM2 (List.mem_of_getElem? (i := 139) rfl)) rfl
theorem kim_X4_move : Cond.instanceMethod yX4_move ∈ jAll := jgd (jM2 (List.mem_of_getElem? (i := 140) rfl)) rfl
theorem kse_X4_move : Cond.selects RX4 yX4_move yX4_move ∈ jAll := jgd (jM2 (List.mem_of_getElem? (i := 141) rfl)) rfl
theorem kco_X4_move : Cond.code yX4_move cX4_move 3 none ∈ jAll := jgd (jM2 (List.mem_of_getElem? (i := 142) rfl)) rfl
theorem kml_X4_59 : Cond.methodLink RX4 59 yX4_putBack ∈ jAll := jgd (jM2 (List.mem_of_getElem? (i := 143) rfl)) rfl
theorem kim_X4_putBack : Cond.instanceMethod yX4_putBack ∈ jAll := jgd (jM2 (List.mem_of_getElem? (i := 144) rfl)) rfl
theorem kse_X4_putBack : Cond.selects RX4 yX4_putBack yX4_putBack ∈ jAll := jgd (jM2 (List.mem_of_getElem? (i := 145) rfl)) rfl
theorem kco_X4_putBack : Cond.code yX4_putBack cX4_putBack 2 none ∈ jAll := jgd (jM2 (List.mem_of_getElem? (i := 146) rfl)) rfl
theorem kml_X4_53 : Cond.methodLink RX4 53 yX4_isAssigned ∈ jAll := jgd (jM2 (List.mem_of_getElem? (i := 147) rfl)) rfl
theorem kim_X4_isAssigned : Cond.instanceMethod yX4_isAssigned ∈ jAll := jgd (jM2 (List.mem_of_getElem? (i := 148) rfl)) rfl
theorem kse_X4_isAssigned : Cond.selects RX4 yX4_isAssigned yX4_isAssigned ∈ jAll := jgd (jM2 (List.mem_of_getElem? (i := 149) rfl)) rfl
theorem kco_X4_isAssigned : Cond.code yX4_isAssigned cX4_isAssigned 2 (some .boolean) ∈ jAll := jgd (jM2 (List.mem_of_getElem? (i := 150) rfl)) rfl
theorem kml_X4_67 : Cond.methodLink RX4 67 yX4_assign ∈ jAll := jgd (jM2 (List.mem_of_getElem? (i := 151) rfl)) rfl
theorem kml_X3_90 : Cond.methodLink RX3 90 yX1_add ∈ jAll := jgd (jM2 (List.mem_of_getElem? (i := 152) rfl)) rfl
theorem kim_X1_add : Cond.instanceMethod yX1_add ∈ jAll := jgd (jM2 (List.mem_of_getElem? (i := 153) rfl)) rfl
theorem kse_X1_add : Cond.selects RX1 yX1_add yX1_add ∈ jAll := jgd (jM2 (List.mem_of_getElem? (i := 154) rfl)) rfl
theorem kco_X1_add : Cond.code yX1_add cX1_add 3 none ∈ jAll := jgd (jM2 (List.mem_of_getElem? (i := 155) rfl)) rfl
theorem kml_L_55 : Cond.methodLink RL 55 yX5_setGroup ∈ jAll := jgd (jM2 (List.mem_of_getElem? (i := 156) rfl)) rfl
theorem kim_X5_setGroup : Cond.instanceMethod yX5_setGroup ∈ jAll := jgd (jM2 (List.mem_of_getElem? (i := 157) rfl)) rfl
theorem kse_X5_setGroup : Cond.selects RX5 yX5_setGroup yX5_setGroup ∈ jAll := jgd (jM2 (List.mem_of_getElem? (i := 158) rfl)) rfl
theorem kco_X5_setGroup : Cond.code yX5_setGroup cX5_setGroup 5 (some .int) ∈ jAll := jgd (jM2 (List.mem_of_getElem? (i := 159) rfl)) rfl
theorem kml_X5_90 : Cond.methodLink RX5 90 yX5_requireGroup ∈ jAll := jgd (jM2 (List.mem_of_getElem? (i := 160) rfl)) rfl
theorem kim_X5_requireGroup : Cond.instanceMethod yX5_requireGroup ∈ jAll := jgd (jM2 (List.mem_of_getElem? (i := 162) rfl)) rfl
theorem kco_X5_requireGroup : Cond.code yX5_requireGroup cX5_requireGroup 2 none ∈ jAll := jgd (jM2 (List.mem_of_getElem? (i := 163) rfl)) rfl
theorem kcl_X5_208 : Cond.classLink RX5 208 "java/lang/IndexOutOfBoundsException" ∈ jAll := jgd (jM2 (List.mem_of_getElem? (i := 164) rfl)) rfl
theorem kin__java_lang_IndexOutOfBoundsException_ : Cond.instantiable "java/lang/IndexOutOfBoundsException" 6 ∈ jAll := jgd (jM2 (List.mem_of_getElem? (i := 165) rfl)) rfl
theorem kml_X5_212 : Cond.methodLink RX5 212 ⟨"java/lang/IndexOutOfBoundsException", "<init>", "(Ljava/lang/String;)V"⟩ ∈ jAll := jgd (jM2 (List.mem_of_getElem? (i := 174) rfl)) rfl
theorem kim_IndexOutOfBoundsException__init__Ljava_lang_String__V : Cond.instanceMethod ⟨"java/lang/IndexOutOfBoundsException", "<init>", "(Ljava/lang/String;)V"⟩ ∈ jAll := jgd (jM2 (List.mem_of_getElem? (i := 175) rfl)) rfl
theorem kml__java_lang_IndexOutOfBoundsException__7 : Cond.methodLink "java/lang/IndexOutOfBoundsException" 7 ⟨"java/lang/RuntimeException", "<init>", "(Ljava/lang/String;)V"⟩ ∈ jAll := jgd (jM2 (List.mem_of_getElem? (i := 177) rfl)) rfl
theorem kml_X5_103 : Cond.methodLink RX5 103 yX4_putBackBeyondQuota ∈ jAll := jgd (jM2 (List.mem_of_getElem? (i := 182) rfl)) rfl
theorem kim_X4_putBackBeyondQuota : Cond.instanceMethod yX4_putBackBeyondQuota ∈ jAll := jgd (jM2 (List.mem_of_getElem? (i := 183) rfl)) rfl
theorem kse_X4_putBackBeyondQuota : Cond.selects RX4 yX4_putBackBeyondQuota yX4_putBackBeyondQuota ∈ jAll := jgd (jM2 (List.mem_of_getElem? (i := 184) rfl)) rfl
theorem kco_X4_putBackBeyondQuota : Cond.code yX4_putBackBeyondQuota cX4_putBackBeyondQuota 4 (some .int) ∈ jAll := jgd (jM2 (List.mem_of_getElem? (i := 185) rfl)) rfl
theorem kml_L_49 : Cond.methodLink RL 49 yX5_setLimits ∈ jAll := jgd (jM2 (List.mem_of_getElem? (i := 186) rfl)) rfl
theorem kim_X5_setLimits : Cond.instanceMethod yX5_setLimits ∈ jAll := jgd (jM2 (List.mem_of_getElem? (i := 187) rfl)) rfl
theorem kse_X5_setLimits : Cond.selects RX5 yX5_setLimits yX5_setLimits ∈ jAll := jgd (jM2 (List.mem_of_getElem? (i := 188) rfl)) rfl
theorem kco_X5_setLimits : Cond.code yX5_setLimits cX5_setLimits 3 (some .int) ∈ jAll := jgd (jM2 (List.mem_of_getElem? (i := 189) rfl)) rfl
theorem kml_L_67 : Cond.methodLink RL 67 yX5_arrive ∈ jAll := jgd (jM2 (List.mem_of_getElem? (i := 192) rfl)) rfl
theorem kim_X5_arrive : Cond.instanceMethod yX5_arrive ∈ jAll := jgd (jM2 (List.mem_of_getElem? (i := 193) rfl)) rfl
theorem kse_X5_arrive : Cond.selects RX5 yX5_arrive yX5_arrive ∈ jAll := jgd (jM2 (List.mem_of_getElem? (i := 194) rfl)) rfl
theorem kco_X5_arrive : Cond.code yX5_arrive cX5_arrive 4 (some .int) ∈ jAll := jgd (jM2 (List.mem_of_getElem? (i := 195) rfl)) rfl
theorem kml_X5_116 : Cond.methodLink RX5 116 yX5_requireMask ∈ jAll := jgd (jM2 (List.mem_of_getElem? (i := 196) rfl)) rfl
theorem kim_X5_requireMask : Cond.instanceMethod yX5_requireMask ∈ jAll := jgd (jM2 (List.mem_of_getElem? (i := 198) rfl)) rfl
theorem kco_X5_requireMask : Cond.code yX5_requireMask cX5_requireMask 2 none ∈ jAll := jgd (jM2 (List.mem_of_getElem? (i := 199) rfl)) rfl
theorem kml_X5_219 : Cond.methodLink RX5 219 yX4_maskOfAll ∈ jAll := jgd (jM2 (List.mem_of_getElem? (i := 200) rfl)) rfl
theorem kim_X4_maskOfAll : Cond.instanceMethod yX4_maskOfAll ∈ jAll := jgd (jM2 (List.mem_of_getElem? (i := 201) rfl)) rfl
theorem kse_X4_maskOfAll : Cond.selects RX4 yX4_maskOfAll yX4_maskOfAll ∈ jAll := jgd (jM2 (List.mem_of_getElem? (i := 202) rfl)) rfl
theorem kco_X4_maskOfAll : Cond.code yX4_maskOfAll cX4_maskOfAll 1 (some .int) ∈ jAll := jgd (jM2 (List.mem_of_getElem? (i := 203) rfl)) rfl
theorem kml_X5_124 : Cond.methodLink RX5 124 yX4_admit ∈ jAll := jgd (jM2 (List.mem_of_getElem? (i := 206) rfl)) rfl
theorem kim_X4_admit : Cond.instanceMethod yX4_admit ∈ jAll := jgd (jM2 (List.mem_of_getElem? (i := 207) rfl)) rfl
theorem kse_X4_admit : Cond.selects RX4 yX4_admit yX4_admit ∈ jAll := jgd (jM2 (List.mem_of_getElem? (i := 208) rfl)) rfl
theorem kco_X4_admit : Cond.code yX4_admit cX4_admit 4 (some .int) ∈ jAll := jgd (jM2 (List.mem_of_getElem? (i := 209) rfl)) rfl
theorem kml_X5_128 : Cond.methodLink RX5 128 yX3_tryToPlace ∈ jAll := jgd (jM2 (List.mem_of_getElem? (i := 210) rfl)) rfl
theorem kml_L_70 : Cond.methodLink RL 70 yX5_depart ∈ jAll := jgd (jM2 (List.mem_of_getElem? (i := 211) rfl)) rfl
theorem kim_X5_depart : Cond.instanceMethod yX5_depart ∈ jAll := jgd (jM2 (List.mem_of_getElem? (i := 212) rfl)) rfl
theorem kse_X5_depart : Cond.selects RX5 yX5_depart yX5_depart ∈ jAll := jgd (jM2 (List.mem_of_getElem? (i := 213) rfl)) rfl
theorem kco_X5_depart : Cond.code yX5_depart cX5_depart 2 (some .int) ∈ jAll := jgd (jM2 (List.mem_of_getElem? (i := 214) rfl)) rfl
theorem kml_X5_132 : Cond.methodLink RX5 132 yX5_requirePresent ∈ jAll := jgd (jM2 (List.mem_of_getElem? (i := 215) rfl)) rfl
theorem kim_X5_requirePresent : Cond.instanceMethod yX5_requirePresent ∈ jAll := jgd (jM2 (List.mem_of_getElem? (i := 217) rfl)) rfl
theorem kco_X5_requirePresent : Cond.code yX5_requirePresent cX5_requirePresent 2 none ∈ jAll := jgd (jM2 (List.mem_of_getElem? (i := 218) rfl)) rfl
theorem kml_X5_157 : Cond.methodLink RX5 157 yX5_requireRequest ∈ jAll := jgd (jM2 (List.mem_of_getElem? (i := 219) rfl)) rfl
theorem kim_X5_requireRequest : Cond.instanceMethod yX5_requireRequest ∈ jAll := jgd (jM2 (List.mem_of_getElem? (i := 221) rfl)) rfl
theorem kco_X5_requireRequest : Cond.code yX5_requireRequest cX5_requireRequest 2 none ∈ jAll := jgd (jM2 (List.mem_of_getElem? (i := 222) rfl)) rfl
theorem kml_X5_197 : Cond.methodLink RX5 197 yX4_isDeparted ∈ jAll := jgd (jM2 (List.mem_of_getElem? (i := 224) rfl)) rfl
theorem kim_X4_isDeparted : Cond.instanceMethod yX4_isDeparted ∈ jAll := jgd (jM2 (List.mem_of_getElem? (i := 225) rfl)) rfl
theorem kse_X4_isDeparted : Cond.selects RX4 yX4_isDeparted yX4_isDeparted ∈ jAll := jgd (jM2 (List.mem_of_getElem? (i := 226) rfl)) rfl
theorem kco_X4_isDeparted : Cond.code yX4_isDeparted cX4_isDeparted 2 (some .boolean) ∈ jAll := jgd (jM2 (List.mem_of_getElem? (i := 227) rfl)) rfl
theorem kcl_X5_163 : Cond.classLink RX5 163 "java/util/NoSuchElementException" ∈ jAll := jgd (jM2 (List.mem_of_getElem? (i := 228) rfl)) rfl
theorem kin__java_util_NoSuchElementException_ : Cond.instantiable "java/util/NoSuchElementException" 6 ∈ jAll := jgd (jM2 (List.mem_of_getElem? (i := 229) rfl)) rfl
theorem kml_X5_167 : Cond.methodLink RX5 167 ⟨"java/util/NoSuchElementException", "<init>", "(Ljava/lang/String;)V"⟩ ∈ jAll := jgd (jM2 (List.mem_of_getElem? (i := 238) rfl)) rfl
theorem kim_NoSuchElementException__init__Ljava_lang_String__V : Cond.instanceMethod ⟨"java/util/NoSuchElementException", "<init>", "(Ljava/lang/String;)V"⟩ ∈ jAll := jgd (jM2 (List.mem_of_getElem? (i := 239) rfl)) rfl
theorem kml__java_util_NoSuchElementException__13 : Cond.methodLink "java/util/NoSuchElementException" 13 ⟨"java/lang/RuntimeException", "<init>", "(Ljava/lang/String;)V"⟩ ∈ jAll := jgd (jM3 (List.mem_of_getElem? (i := 1) rfl)) rfl
theorem kml_X5_135 : Cond.methodLink RX5 135 yX4_dismiss ∈ jAll := jgd (jM3 (List.mem_of_getElem? (i := 4) rfl)) rfl
theorem kim_X4_dismiss : Cond.instanceMethod yX4_dismiss ∈ jAll := jgd (jM3 (List.mem_of_getElem? (i := 5) rfl)) rfl
theorem kse_X4_dismiss : Cond.selects RX4 yX4_dismiss yX4_dismiss ∈ jAll := jgd (jM3 (List.mem_of_getElem? (i := 6) rfl)) rfl
theorem kco_X4_dismiss : Cond.code yX4_dismiss cX4_dismiss 2 none ∈ jAll := jgd (jM3 (List.mem_of_getElem? (i := 7) rfl)) rfl
theorem kml_L_73 : Cond.methodLink RL 73 yX5_setAccepts ∈ jAll := jgd (jM3 (List.mem_of_getElem? (i := 8) rfl)) rfl
theorem kim_X5_setAccepts : Cond.instanceMethod yX5_setAccepts ∈ jAll := jgd (jM3 (List.mem_of_getElem? (i := 9) rfl)) rfl
theorem kse_X5_setAccepts : Cond.selects RX5 yX5_setAccepts yX5_setAccepts ∈ jAll := jgd (jM3 (List.mem_of_getElem? (i := 10) rfl)) rfl
theorem kco_X5_setAccepts : Cond.code yX5_setAccepts cX5_setAccepts 3 (some .boolean) ∈ jAll := jgd (jM3 (List.mem_of_getElem? (i := 11) rfl)) rfl
theorem kml_X5_138 : Cond.methodLink RX5 138 yX4_accept ∈ jAll := jgd (jM3 (List.mem_of_getElem? (i := 12) rfl)) rfl
theorem kim_X4_accept : Cond.instanceMethod yX4_accept ∈ jAll := jgd (jM3 (List.mem_of_getElem? (i := 13) rfl)) rfl
theorem kse_X4_accept : Cond.selects RX4 yX4_accept yX4_accept ∈ jAll := jgd (jM3 (List.mem_of_getElem? (i := 14) rfl)) rfl
theorem kco_X4_accept : Cond.code yX4_accept cX4_accept 3 none ∈ jAll := jgd (jM3 (List.mem_of_getElem? (i := 15) rfl)) rfl
theorem kmn_X4_63 : Cond.methodLinkNest RX4 63 yX5_hasBit "MatchingService" ∈ jNest := jH (jM3 (List.mem_of_getElem? (i := 16) rfl)) rfl
theorem kml_X5_142 : Cond.methodLink RX5 142 yX4_isAssigned ∈ jAll := jgd (jM3 (List.mem_of_getElem? (i := 17) rfl)) rfl
theorem kml_L_81 : Cond.methodLink RL 81 yX5_resourceCount ∈ jAll := jgd (jM3 (List.mem_of_getElem? (i := 18) rfl)) rfl
theorem kim_X5_resourceCount : Cond.instanceMethod yX5_resourceCount ∈ jAll := jgd (jM3 (List.mem_of_getElem? (i := 19) rfl)) rfl
theorem kse_X5_resourceCount : Cond.selects RX5 yX5_resourceCount yX5_resourceCount ∈ jAll := jgd (jM3 (List.mem_of_getElem? (i := 20) rfl)) rfl
theorem kco_X5_resourceCount : Cond.code yX5_resourceCount cX5_resourceCount 1 (some .int) ∈ jAll := jgd (jM3 (List.mem_of_getElem? (i := 21) rfl)) rfl
theorem kml_L_45 : Cond.methodLink RL 45 yL_below ∈ jAll := jgd (jM3 (List.mem_of_getElem? (i := 22) rfl)) rfl
theorem kst_L_below : Cond.static yL_below ∈ jAll := jgd (jM3 (List.mem_of_getElem? (i := 23) rfl)) rfl
theorem kco_L_below : Cond.code yL_below cL_below 2 (some .int) ∈ jAll := jgd (jM3 (List.mem_of_getElem? (i := 24) rfl)) rfl
theorem kcn_L_7 : Cond.constant RL 7 (2147483647 : Int32) ∈ jAll := jgd (jM3 (List.mem_of_getElem? (i := 25) rfl)) rfl
theorem kml_L_41 : Cond.methodLink RL 41 yL_cell ∈ jAll := jgd (jM3 (List.mem_of_getElem? (i := 26) rfl)) rfl
theorem kst_L_cell : Cond.static yL_cell ∈ jAll := jgd (jM3 (List.mem_of_getElem? (i := 27) rfl)) rfl
theorem kco_L_cell : Cond.code yL_cell cL_cell 2 (some .int) ∈ jAll := jgd (jM3 (List.mem_of_getElem? (i := 28) rfl)) rfl
theorem kcn_L_8 : Cond.constant RL 8 (790386105 : Int32) ∈ jAll := jgd (jM3 (List.mem_of_getElem? (i := 29) rfl)) rfl
theorem kml_L_59 : Cond.methodLink RL 59 yL_bestPath ∈ jAll := jgd (jM3 (List.mem_of_getElem? (i := 30) rfl)) rfl
theorem kst_L_bestPath : Cond.static yL_bestPath ∈ jAll := jgd (jM3 (List.mem_of_getElem? (i := 31) rfl)) rfl
theorem kco_L_bestPath : Cond.code yL_bestPath cL_bestPath 10 (some .int) ∈ jAll := jgd (jM3 (List.mem_of_getElem? (i := 32) rfl)) rfl
theorem kml_L_9 : Cond.methodLink RL 9 yL_isPath ∈ jAll := jgd (jM3 (List.mem_of_getElem? (i := 33) rfl)) rfl
theorem kst_L_isPath : Cond.static yL_isPath ∈ jAll := jgd (jM3 (List.mem_of_getElem? (i := 34) rfl)) rfl
theorem kco_L_isPath : Cond.code yL_isPath cL_isPath 13 (some .boolean) ∈ jAll := jgd (jM3 (List.mem_of_getElem? (i := 35) rfl)) rfl
theorem kml_L_63 : Cond.methodLink RL 63 yL_place ∈ jAll := jgd (jM3 (List.mem_of_getElem? (i := 36) rfl)) rfl
theorem kst_L_place : Cond.static yL_place ∈ jAll := jgd (jM3 (List.mem_of_getElem? (i := 37) rfl)) rfl
theorem kco_L_place : Cond.code yL_place cL_place 11 (some .int) ∈ jAll := jgd (jM3 (List.mem_of_getElem? (i := 38) rfl)) rfl
theorem kml_L_77 : Cond.methodLink RL 77 yL_isSame ∈ jAll := jgd (jM3 (List.mem_of_getElem? (i := 39) rfl)) rfl
theorem kst_L_isSame : Cond.static yL_isSame ∈ jAll := jgd (jM3 (List.mem_of_getElem? (i := 40) rfl)) rfl
theorem kco_L_isSame : Cond.code yL_isSame cL_isSame 7 (some .boolean) ∈ jAll := jgd (jM3 (List.mem_of_getElem? (i := 41) rfl)) rfl
theorem kml_L_15 : Cond.methodLink RL 15 yX5_arrivedCount ∈ jAll := jgd (jM3 (List.mem_of_getElem? (i := 42) rfl)) rfl
theorem kim_X5_arrivedCount : Cond.instanceMethod yX5_arrivedCount ∈ jAll := jgd (jM3 (List.mem_of_getElem? (i := 43) rfl)) rfl
theorem kse_X5_arrivedCount : Cond.selects RX5 yX5_arrivedCount yX5_arrivedCount ∈ jAll := jgd (jM3 (List.mem_of_getElem? (i := 44) rfl)) rfl
theorem kco_X5_arrivedCount : Cond.code yX5_arrivedCount cX5_arrivedCount 1 (some .int) ∈ jAll := jgd (jM3 (List.mem_of_getElem? (i := 45) rfl)) rfl
theorem kml_L_21 : Cond.methodLink RL 21 yX5_moveCount ∈ jAll := jgd (jM3 (List.mem_of_getElem? (i := 46) rfl)) rfl
theorem kim_X5_moveCount : Cond.instanceMethod yX5_moveCount ∈ jAll := jgd (jM3 (List.mem_of_getElem? (i := 47) rfl)) rfl
theorem kse_X5_moveCount : Cond.selects RX5 yX5_moveCount yX5_moveCount ∈ jAll := jgd (jM3 (List.mem_of_getElem? (i := 48) rfl)) rfl
theorem kco_X5_moveCount : Cond.code yX5_moveCount cX5_moveCount 1 (some .int) ∈ jAll := jgd (jM3 (List.mem_of_getElem? (i := 49) rfl)) rfl
theorem kml_L_24 : Cond.methodLink RL 24 yX5_state ∈ jAll := jgd (jM3 (List.mem_of_getElem? (i := 50) rfl)) rfl
theorem kim_X5_state : Cond.instanceMethod yX5_state ∈ jAll := jgd (jM3 (List.mem_of_getElem? (i := 51) rfl)) rfl
theorem kse_X5_state : Cond.selects RX5 yX5_state yX5_state ∈ jAll := jgd (jM3 (List.mem_of_getElem? (i := 52) rfl)) rfl
theorem kco_X5_state : Cond.code yX5_state cX5_state 2 (some .int) ∈ jAll := jgd (jM3 (List.mem_of_getElem? (i := 53) rfl)) rfl
theorem kml_X5_160 : Cond.methodLink RX5 160 yX4_stateNumber ∈ jAll := jgd (jM3 (List.mem_of_getElem? (i := 54) rfl)) rfl
theorem kim_X4_stateNumber : Cond.instanceMethod yX4_stateNumber ∈ jAll := jgd (jM3 (List.mem_of_getElem? (i := 55) rfl)) rfl
theorem kse_X4_stateNumber : Cond.selects RX4 yX4_stateNumber yX4_stateNumber ∈ jAll := jgd (jM3 (List.mem_of_getElem? (i := 56) rfl)) rfl
theorem kco_X4_stateNumber : Cond.code yX4_stateNumber cX4_stateNumber 2 (some .int) ∈ jAll := jgd (jM3 (List.mem_of_getElem? (i := 57) rfl)) rfl
theorem kml_X4_49 : Cond.methodLink RX4 49 yX4_isWaiting ∈ jAll := jgd (jM3 (List.mem_of_getElem? (i := 58) rfl)) rfl
theorem kml_L_28 : Cond.methodLink RL 28 yX5_resourceOf ∈ jAll := jgd (jM3 (List.mem_of_getElem? (i := 59) rfl)) rfl
theorem kim_X5_resourceOf : Cond.instanceMethod yX5_resourceOf ∈ jAll := jgd (jM3 (List.mem_of_getElem? (i := 60) rfl)) rfl
theorem kse_X5_resourceOf : Cond.selects RX5 yX5_resourceOf yX5_resourceOf ∈ jAll := jgd (jM3 (List.mem_of_getElem? (i := 61) rfl)) rfl
theorem kco_X5_resourceOf : Cond.code yX5_resourceOf cX5_resourceOf 2 (some .int) ∈ jAll := jgd (jM3 (List.mem_of_getElem? (i := 62) rfl)) rfl
theorem kml_L_31 : Cond.methodLink RL 31 yX5_movesOf ∈ jAll := jgd (jM3 (List.mem_of_getElem? (i := 64) rfl)) rfl
theorem kim_X5_movesOf : Cond.instanceMethod yX5_movesOf ∈ jAll := jgd (jM3 (List.mem_of_getElem? (i := 65) rfl)) rfl
theorem kse_X5_movesOf : Cond.selects RX5 yX5_movesOf yX5_movesOf ∈ jAll := jgd (jM3 (List.mem_of_getElem? (i := 66) rfl)) rfl
theorem kco_X5_movesOf : Cond.code yX5_movesOf cX5_movesOf 2 (some .int) ∈ jAll := jgd (jM3 (List.mem_of_getElem? (i := 67) rfl)) rfl
theorem kml_L_34 : Cond.methodLink RL 34 yX5_movedRequest ∈ jAll := jgd (jM3 (List.mem_of_getElem? (i := 68) rfl)) rfl
theorem kim_X5_movedRequest : Cond.instanceMethod yX5_movedRequest ∈ jAll := jgd (jM3 (List.mem_of_getElem? (i := 69) rfl)) rfl
theorem kse_X5_movedRequest : Cond.selects RX5 yX5_movedRequest yX5_movedRequest ∈ jAll := jgd (jM3 (List.mem_of_getElem? (i := 70) rfl)) rfl
theorem kco_X5_movedRequest : Cond.code yX5_movedRequest cX5_movedRequest 2 (some .int) ∈ jAll := jgd (jM3 (List.mem_of_getElem? (i := 71) rfl)) rfl
theorem kml_X5_177 : Cond.methodLink RX5 177 yX5_requireLogged ∈ jAll := jgd (jM3 (List.mem_of_getElem? (i := 72) rfl)) rfl
theorem kim_X5_requireLogged : Cond.instanceMethod yX5_requireLogged ∈ jAll := jgd (jM3 (List.mem_of_getElem? (i := 74) rfl)) rfl
theorem kco_X5_requireLogged : Cond.code yX5_requireLogged cX5_requireLogged 2 none ∈ jAll := jgd (jM3 (List.mem_of_getElem? (i := 75) rfl)) rfl
theorem kml_L_37 : Cond.methodLink RL 37 yX5_movedTo ∈ jAll := jgd (jM3 (List.mem_of_getElem? (i := 77) rfl)) rfl
theorem kim_X5_movedTo : Cond.instanceMethod yX5_movedTo ∈ jAll := jgd (jM3 (List.mem_of_getElem? (i := 78) rfl)) rfl
theorem kse_X5_movedTo : Cond.selects RX5 yX5_movedTo yX5_movedTo ∈ jAll := jgd (jM3 (List.mem_of_getElem? (i := 79) rfl)) rfl
theorem kco_X5_movedTo : Cond.code yX5_movedTo cX5_movedTo 2 (some .int) ∈ jAll := jgd (jM3 (List.mem_of_getElem? (i := 80) rfl)) rfl
theorem kse_X3_nextToTry : Cond.selects RX3 yX3_nextToTry yX3_nextToTry ∈ jAll := jgd (jMp (List.mem_of_getElem? (i := 1) rfl)) rfl
theorem kse_X3_isServedBefore : Cond.selects RX3 yX3_isServedBefore yX3_isServedBefore ∈ jAll := jgd (jMp (List.mem_of_getElem? (i := 2) rfl)) rfl
theorem kse_X2_collectSuccessors : Cond.selects RX2 yX2_collectSuccessors yX2_collectSuccessors ∈ jAll := jgd (jMp (List.mem_of_getElem? (i := 3) rfl)) rfl
theorem kse_X2_buildLayers : Cond.selects RX2 yX2_buildLayers yX2_buildLayers ∈ jAll := jgd (jMp (List.mem_of_getElem? (i := 4) rfl)) rfl
theorem kse_X2_leadingTo : Cond.selects RX2 yX2_leadingTo yX2_leadingTo ∈ jAll := jgd (jMp (List.mem_of_getElem? (i := 5) rfl)) rfl
theorem kse_X2_shortestFrom : Cond.selects RX2 yX2_shortestFrom yX2_shortestFrom ∈ jAll := jgd (jMp (List.mem_of_getElem? (i := 6) rfl)) rfl
theorem kse_X2_trace : Cond.selects RX2 yX2_trace yX2_trace ∈ jAll := jgd (jMp (List.mem_of_getElem? (i := 7) rfl)) rfl
theorem kse_X2_firstMovable : Cond.selects RX2 yX2_firstMovable yX2_firstMovable ∈ jAll := jgd (jMp (List.mem_of_getElem? (i := 8) rfl)) rfl
theorem kse_X3_placeAlongPath : Cond.selects RX3 yX3_placeAlongPath yX3_placeAlongPath ∈ jAll := jgd (jMp (List.mem_of_getElem? (i := 9) rfl)) rfl
theorem kse_X5_requireGroup : Cond.selects RX5 yX5_requireGroup yX5_requireGroup ∈ jAll := jgd (jMp (List.mem_of_getElem? (i := 10) rfl)) rfl
theorem kse_X5_requireMask : Cond.selects RX5 yX5_requireMask yX5_requireMask ∈ jAll := jgd (jMp (List.mem_of_getElem? (i := 11) rfl)) rfl
theorem kse_X5_requirePresent : Cond.selects RX5 yX5_requirePresent yX5_requirePresent ∈ jAll := jgd (jMp (List.mem_of_getElem? (i := 12) rfl)) rfl
theorem kse_X5_requireRequest : Cond.selects RX5 yX5_requireRequest yX5_requireRequest ∈ jAll := jgd (jMp (List.mem_of_getElem? (i := 13) rfl)) rfl
theorem kse_X5_requireLogged : Cond.selects RX5 yX5_requireLogged yX5_requireLogged ∈ jAll := jgd (jMp (List.mem_of_getElem? (i := 14) rfl)) rfl
theorem jU_X0 : ∀ w ∈ u_ws RX0 TX0 10, w ∈ jAll := by
  intro w h
  obtain ⟨k, hk, rfl⟩ := List.mem_map.mp h
  have hk := List.mem_range.mp hk
  match k, hk with
  | 0, _ => exact jgd (jM1 (List.mem_of_getElem? (i := 168) rfl)) rfl
  | 1, _ => exact jgd (jM1 (List.mem_of_getElem? (i := 170) rfl)) rfl
  | 2, _ => exact jgd (jM1 (List.mem_of_getElem? (i := 172) rfl)) rfl
  | 3, _ => exact jgd (jM1 (List.mem_of_getElem? (i := 174) rfl)) rfl
  | 4, _ => exact jgd (jM1 (List.mem_of_getElem? (i := 176) rfl)) rfl
  | 5, _ => exact jgd (jM1 (List.mem_of_getElem? (i := 178) rfl)) rfl
  | 6, _ => exact jgd (jM1 (List.mem_of_getElem? (i := 180) rfl)) rfl
  | 7, _ => exact jgd (jM1 (List.mem_of_getElem? (i := 182) rfl)) rfl
  | 8, _ => exact jgd (jM1 (List.mem_of_getElem? (i := 184) rfl)) rfl
  | 9, _ => exact jgd (jM1 (List.mem_of_getElem? (i := 186) rfl)) rfl
  | k + 10, hk => exact absurd hk (by omega)
theorem jU_X1 : ∀ w ∈ u_ws RX1 TX1 3, w ∈ jAll := by
  intro w h
  obtain ⟨k, hk, rfl⟩ := List.mem_map.mp h
  have hk := List.mem_range.mp hk
  match k, hk with
  | 0, _ => exact jgd (jM1 (List.mem_of_getElem? (i := 98) rfl)) rfl
  | 1, _ => exact jgd (jM1 (List.mem_of_getElem? (i := 100) rfl)) rfl
  | 2, _ => exact jgd (jM1 (List.mem_of_getElem? (i := 102) rfl)) rfl
  | k + 3, hk => exact absurd hk (by omega)
theorem jU_X2 : ∀ w ∈ u_ws RX2 TX2 6, w ∈ jAll := by
  intro w h
  obtain ⟨k, hk, rfl⟩ := List.mem_map.mp h
  have hk := List.mem_range.mp hk
  match k, hk with
  | 0, _ => exact jgd (jM1 (List.mem_of_getElem? (i := 120) rfl)) rfl
  | 1, _ => exact jgd (jM1 (List.mem_of_getElem? (i := 122) rfl)) rfl
  | 2, _ => exact jgd (jM1 (List.mem_of_getElem? (i := 124) rfl)) rfl
  | 3, _ => exact jgd (jM1 (List.mem_of_getElem? (i := 126) rfl)) rfl
  | 4, _ => exact jgd (jM1 (List.mem_of_getElem? (i := 128) rfl)) rfl
  | 5, _ => exact jgd (jM1 (List.mem_of_getElem? (i := 130) rfl)) rfl
  | k + 6, hk => exact absurd hk (by omega)
theorem jU_X3 : ∀ w ∈ u_ws RX3 TX3 4, w ∈ jAll := by
  intro w h
  obtain ⟨k, hk, rfl⟩ := List.mem_map.mp h
  have hk := List.mem_range.mp hk
  match k, hk with
  | 0, _ => exact jgd (jM1 (List.mem_of_getElem? (i := 143) rfl)) rfl
  | 1, _ => exact jgd (jM1 (List.mem_of_getElem? (i := 145) rfl)) rfl
  | 2, _ => exact jgd (jM1 (List.mem_of_getElem? (i := 147) rfl)) rfl
  | 3, _ => exact jgd (jM1 (List.mem_of_getElem? (i := 149) rfl)) rfl
  | k + 4, hk => exact absurd hk (by omega)
theorem jU_X4 : ∀ w ∈ u_ws RX4 TX4 13, w ∈ jAll := by
  intro w h
  obtain ⟨k, hk, rfl⟩ := List.mem_map.mp h
  have hk := List.mem_range.mp hk
  match k, hk with
  | 0, _ => exact jgd (jM1 (List.mem_of_getElem? (i := 58) rfl)) rfl
  | 1, _ => exact jgd (jM1 (List.mem_of_getElem? (i := 60) rfl)) rfl
  | 2, _ => exact jgd (jM1 (List.mem_of_getElem? (i := 62) rfl)) rfl
  | 3, _ => exact jgd (jM1 (List.mem_of_getElem? (i := 64) rfl)) rfl
  | 4, _ => exact jgd (jM1 (List.mem_of_getElem? (i := 66) rfl)) rfl
  | 5, _ => exact jgd (jM1 (List.mem_of_getElem? (i := 68) rfl)) rfl
  | 6, _ => exact jgd (jM1 (List.mem_of_getElem? (i := 70) rfl)) rfl
  | 7, _ => exact jgd (jM1 (List.mem_of_getElem? (i := 72) rfl)) rfl
  | 8, _ => exact jgd (jM1 (List.mem_of_getElem? (i := 74) rfl)) rfl
  | 9, _ => exact jgd (jM1 (List.mem_of_getElem? (i := 76) rfl)) rfl
  | 10, _ => exact jgd (jM1 (List.mem_of_getElem? (i := 78) rfl)) rfl
  | 11, _ => exact jgd (jM1 (List.mem_of_getElem? (i := 80) rfl)) rfl
  | 12, _ => exact jgd (jM1 (List.mem_of_getElem? (i := 82) rfl)) rfl
  | k + 13, hk => exact absurd hk (by omega)
theorem jU_X5 : ∀ w ∈ u_ws RX5 TX5 5, w ∈ jAll := by
  intro w h
  obtain ⟨k, hk, rfl⟩ := List.mem_map.mp h
  have hk := List.mem_range.mp hk
  match k, hk with
  | 0, _ => exact jgd (jM1 (List.mem_of_getElem? (i := 194) rfl)) rfl
  | 1, _ => exact jgd (jM1 (List.mem_of_getElem? (i := 196) rfl)) rfl
  | 2, _ => exact jgd (jM1 (List.mem_of_getElem? (i := 198) rfl)) rfl
  | 3, _ => exact jgd (jM1 (List.mem_of_getElem? (i := 200) rfl)) rfl
  | 4, _ => exact jgd (jM1 (List.mem_of_getElem? (i := 202) rfl)) rfl
  | k + 5, hk => exact absurd hk (by omega)
theorem jU_X6 : ∀ w ∈ u_ws RX6 TX6 0, w ∈ jAll := by
  intro w h
  obtain ⟨k, hk, rfl⟩ := List.mem_map.mp h
  have hk := List.mem_range.mp hk
  match k, hk with
  | k + 0, hk => exact absurd hk (by omega)
