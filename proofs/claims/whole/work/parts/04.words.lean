/-! THE WORDS: jAll, the good ones of the tables; each by its place. (From the printed Statement, by gen_words.py) -/
def jAll : List Cond := lw_tbl.filter goodWord
theorem jAll_tbl : ∀ w ∈ jAll, w ∈ lw_tbl := fun _ h => (List.mem_filter.mp h).1
theorem jAll_good : ∀ w ∈ jAll, goodWord w = true := fun _ h => (List.mem_filter.mp h).2
theorem jM1 {w : Cond} (h : w ∈ tables_1_1) : w ∈ lw_tbl := List.mem_append_right _ (List.mem_append_left _ h)
theorem jM2 {w : Cond} (h : w ∈ tables_1_2) : w ∈ lw_tbl := List.mem_append_right _ (List.mem_append_right _ (List.mem_append_left _ h))
theorem jM3 {w : Cond} (h : w ∈ tables_1_3) : w ∈ lw_tbl := List.mem_append_right _ (List.mem_append_right _ (List.mem_append_right _ (List.mem_append_left _ h)))
theorem jM4 {w : Cond} (h : w ∈ tables_1_4) : w ∈ lw_tbl := List.mem_append_right _ (List.mem_append_right _ (List.mem_append_right _ (List.mem_append_right _ (List.mem_append_left _ h))))
theorem jM5 {w : Cond} (h : w ∈ tables_1_5) : w ∈ lw_tbl := List.mem_append_right _ (List.mem_append_right _ (List.mem_append_right _ (List.mem_append_right _ (List.mem_append_right _ h))))
theorem jMp {w : Cond} (h : w ∈ k2_sels lw_privs) : w ∈ lw_tbl := List.mem_append_left _ h
def jIsNest : Cond → Bool
  | .fieldLinkNest .. => true
  | .methodLinkNest .. => true
  | _ => false
def jNest : List Cond := lw_tbl.filter jIsNest
theorem jNest_tbl : ∀ w ∈ jNest, w ∈ lw_tbl := fun _ h => (List.mem_filter.mp h).1
theorem jH {w : Cond} (h : w ∈ lw_tbl) (g : jIsNest w = true) : w ∈ jNest := List.mem_filter.mpr ⟨h, g⟩
theorem jNest_on {w : Cond} (h : w ∈ jNest) : w.onTables = true := by
  have h2 := (List.mem_filter.mp h).2
  cases w <;> first | rfl | (simp [jIsNest] at h2)
theorem jNest_warm {w : Cond} (h : w ∈ jNest) {s U : State} (hW : s.WarmedH U.vm) (hZ : va_Nw w s) : va_Nw w U := by
  have h2 := (List.mem_filter.mp h).2
  cases w <;> first | exact va_Nw.warmF hW hZ | exact va_Nw.warmM hW hZ | (simp [jIsNest] at h2)
theorem jgd {w : Cond} (h : w ∈ lw_tbl) (g : goodWord w = true) : w ∈ jAll := List.mem_filter.mpr ⟨h, g⟩
theorem kini_L : Cond.initialized RL ∈ jAll := jgd (jM1 (List.mem_of_getElem? (i := 0) rfl)) rfl
theorem kini_X5 : Cond.initialized RX5 ∈ jAll := jgd (jM1 (List.mem_of_getElem? (i := 1) rfl)) rfl
theorem kini_X4 : Cond.initialized RX4 ∈ jAll := jgd (jM1 (List.mem_of_getElem? (i := 2) rfl)) rfl
theorem kini_X1 : Cond.initialized RX1 ∈ jAll := jgd (jM1 (List.mem_of_getElem? (i := 3) rfl)) rfl
theorem kini_X2 : Cond.initialized RX2 ∈ jAll := jgd (jM1 (List.mem_of_getElem? (i := 4) rfl)) rfl
theorem kini_X3 : Cond.initialized RX3 ∈ jAll := jgd (jM1 (List.mem_of_getElem? (i := 5) rfl)) rfl
theorem kini_X0 : Cond.initialized RX0 ∈ jAll := jgd (jM1 (List.mem_of_getElem? (i := 6) rfl)) rfl
theorem kini_X6 : Cond.initialized RX6 ∈ jAll := jgd (jM1 (List.mem_of_getElem? (i := 7) rfl)) rfl
theorem kini__java_lang_Throwable_ : Cond.initialized "java/lang/Throwable" ∈ jAll := jgd (jM1 (List.mem_of_getElem? (i := 8) rfl)) rfl
theorem kini__java_lang_Exception_ : Cond.initialized "java/lang/Exception" ∈ jAll := jgd (jM1 (List.mem_of_getElem? (i := 9) rfl)) rfl
theorem kini__java_lang_RuntimeException_ : Cond.initialized "java/lang/RuntimeException" ∈ jAll := jgd (jM1 (List.mem_of_getElem? (i := 10) rfl)) rfl
theorem kini__java_lang_IllegalArgumentException_ : Cond.initialized "java/lang/IllegalArgumentException" ∈ jAll := jgd (jM1 (List.mem_of_getElem? (i := 11) rfl)) rfl
theorem kini__java_lang_IllegalStateException_ : Cond.initialized "java/lang/IllegalStateException" ∈ jAll := jgd (jM1 (List.mem_of_getElem? (i := 12) rfl)) rfl
theorem kini__java_lang_IndexOutOfBoundsException_ : Cond.initialized "java/lang/IndexOutOfBoundsException" ∈ jAll := jgd (jM1 (List.mem_of_getElem? (i := 13) rfl)) rfl
theorem kini__java_util_NoSuchElementException_ : Cond.initialized "java/util/NoSuchElementException" ∈ jAll := jgd (jM1 (List.mem_of_getElem? (i := 14) rfl)) rfl
theorem kini_J9 : Cond.initialized RJ9 ∈ jAll := jgd (jM1 (List.mem_of_getElem? (i := 15) rfl)) rfl
theorem kcl_L_8 : Cond.classLink RL 8 RX5 ∈ jAll := jgd (jM1 (List.mem_of_getElem? (i := 16) rfl)) rfl
theorem kin_X5 : Cond.instantiable RX5 5 ∈ jAll := jgd (jM1 (List.mem_of_getElem? (i := 17) rfl)) rfl
theorem kml_L_69 : Cond.methodLink RL 69 yX5_init ∈ jAll := jgd (jM1 (List.mem_of_getElem? (i := 18) rfl)) rfl
theorem kim_X5_init : Cond.instanceMethod yX5_init ∈ jAll := jgd (jM1 (List.mem_of_getElem? (i := 19) rfl)) rfl
theorem kco_X5_init : Cond.code yX5_init cX5_init 1 none ∈ jAll := jgd (jM1 (List.mem_of_getElem? (i := 20) rfl)) rfl
theorem kml_X5_1 : Cond.methodLink RX5 1 objectInit ∈ jAll := jgd (jM1 (List.mem_of_getElem? (i := 21) rfl)) rfl
theorem kim_Object__init___V : Cond.instanceMethod objectInit ∈ jAll := jgd (jM1 (List.mem_of_getElem? (i := 22) rfl)) rfl
theorem kco_objectInit : Cond.code objectInit ⟨#[0xb1]⟩ 1 none ∈ jAll := jgd (jM1 (List.mem_of_getElem? (i := 23) rfl)) rfl
theorem kcl_X5_7 : Cond.classLink RX5 7 RX4 ∈ jAll := jgd (jM1 (List.mem_of_getElem? (i := 24) rfl)) rfl
theorem kin_X4 : Cond.instantiable RX4 13 ∈ jAll := jgd (jM1 (List.mem_of_getElem? (i := 25) rfl)) rfl
theorem kml_X5_9 : Cond.methodLink RX5 9 yX4_init ∈ jAll := jgd (jM1 (List.mem_of_getElem? (i := 26) rfl)) rfl
theorem kim_X4_init : Cond.instanceMethod yX4_init ∈ jAll := jgd (jM1 (List.mem_of_getElem? (i := 27) rfl)) rfl
theorem kco_X4_init : Cond.code yX4_init cX4_init 2 none ∈ jAll := jgd (jM1 (List.mem_of_getElem? (i := 28) rfl)) rfl
theorem kml_X4_3 : Cond.methodLink RX4 3 objectInit ∈ jAll := jgd (jM1 (List.mem_of_getElem? (i := 29) rfl)) rfl
theorem kfl_X4_46 : Cond.fieldLink RX4 46 "MatchingService$Pool" "resources" "I" ∈ jAll := jgd (jM1 (List.mem_of_getElem? (i := 30) rfl)) rfl
theorem kfn_X5_59 : Cond.fieldLinkNest RX5 59 "MatchingService$Pool" "resources" "I" "MatchingService" ∈ jNest := jH (jM1 (List.mem_of_getElem? (i := 31) rfl)) rfl
theorem kfn_X2_51 : Cond.fieldLinkNest RX2 51 "MatchingService$Pool" "resources" "I" "MatchingService" ∈ jNest := jH (jM1 (List.mem_of_getElem? (i := 32) rfl)) rfl
theorem kfn_X0_59 : Cond.fieldLinkNest RX0 59 "MatchingService$Pool" "resources" "I" "MatchingService" ∈ jNest := jH (jM1 (List.mem_of_getElem? (i := 33) rfl)) rfl
theorem kfl_X4_9 : Cond.fieldLink RX4 9 "MatchingService$Pool" "capacity" "[I" ∈ jAll := jgd (jM1 (List.mem_of_getElem? (i := 34) rfl)) rfl
theorem kfn_X5_83 : Cond.fieldLinkNest RX5 83 "MatchingService$Pool" "capacity" "[I" "MatchingService" ∈ jNest := jH (jM1 (List.mem_of_getElem? (i := 35) rfl)) rfl
theorem kfn_X0_114 : Cond.fieldLinkNest RX0 114 "MatchingService$Pool" "capacity" "[I" "MatchingService" ∈ jNest := jH (jM1 (List.mem_of_getElem? (i := 36) rfl)) rfl
theorem kfl_X4_15 : Cond.fieldLink RX4 15 "MatchingService$Pool" "load" "[I" ∈ jAll := jgd (jM1 (List.mem_of_getElem? (i := 37) rfl)) rfl
theorem kfn_X0_62 : Cond.fieldLinkNest RX0 62 "MatchingService$Pool" "load" "[I" "MatchingService" ∈ jNest := jH (jM1 (List.mem_of_getElem? (i := 38) rfl)) rfl
theorem kfn_X5_154 : Cond.fieldLinkNest RX5 154 "MatchingService$Pool" "load" "[I" "MatchingService" ∈ jNest := jH (jM1 (List.mem_of_getElem? (i := 39) rfl)) rfl
theorem kfl_X4_18 : Cond.fieldLink RX4 18 "MatchingService$Pool" "quota" "[I" ∈ jAll := jgd (jM1 (List.mem_of_getElem? (i := 40) rfl)) rfl
theorem kfn_X5_97 : Cond.fieldLinkNest RX5 97 "MatchingService$Pool" "quota" "[I" "MatchingService" ∈ jNest := jH (jM1 (List.mem_of_getElem? (i := 41) rfl)) rfl
theorem kfn_X0_99 : Cond.fieldLinkNest RX0 99 "MatchingService$Pool" "quota" "[I" "MatchingService" ∈ jNest := jH (jM1 (List.mem_of_getElem? (i := 42) rfl)) rfl
theorem kfl_X4_21 : Cond.fieldLink RX4 21 "MatchingService$Pool" "weight" "[I" ∈ jAll := jgd (jM1 (List.mem_of_getElem? (i := 43) rfl)) rfl
theorem kfn_X3_55 : Cond.fieldLinkNest RX3 55 "MatchingService$Pool" "weight" "[I" "MatchingService" ∈ jNest := jH (jM1 (List.mem_of_getElem? (i := 44) rfl)) rfl
theorem kfn_X5_100 : Cond.fieldLinkNest RX5 100 "MatchingService$Pool" "weight" "[I" "MatchingService" ∈ jNest := jH (jM1 (List.mem_of_getElem? (i := 45) rfl)) rfl
theorem kfl_X4_24 : Cond.fieldLink RX4 24 "MatchingService$Pool" "assigned" "[I" ∈ jAll := jgd (jM1 (List.mem_of_getElem? (i := 46) rfl)) rfl
theorem kfn_X0_63 : Cond.fieldLinkNest RX0 63 "MatchingService$Pool" "assigned" "[I" "MatchingService" ∈ jNest := jH (jM1 (List.mem_of_getElem? (i := 47) rfl)) rfl
theorem kfn_X3_52 : Cond.fieldLinkNest RX3 52 "MatchingService$Pool" "assigned" "[I" "MatchingService" ∈ jNest := jH (jM1 (List.mem_of_getElem? (i := 48) rfl)) rfl
theorem kfn_X5_151 : Cond.fieldLinkNest RX5 151 "MatchingService$Pool" "assigned" "[I" "MatchingService" ∈ jNest := jH (jM1 (List.mem_of_getElem? (i := 49) rfl)) rfl
theorem kfn_X3_27 : Cond.fieldLinkNest RX3 27 "MatchingService$Pool" "requests" "I" "MatchingService" ∈ jNest := jH (jM1 (List.mem_of_getElem? (i := 50) rfl)) rfl
theorem kfn_X0_51 : Cond.fieldLinkNest RX0 51 "MatchingService$Pool" "requests" "I" "MatchingService" ∈ jNest := jH (jM1 (List.mem_of_getElem? (i := 51) rfl)) rfl
theorem kfn_X2_54 : Cond.fieldLinkNest RX2 54 "MatchingService$Pool" "requests" "I" "MatchingService" ∈ jNest := jH (jM1 (List.mem_of_getElem? (i := 52) rfl)) rfl
theorem kfn_X5_119 : Cond.fieldLinkNest RX5 119 "MatchingService$Pool" "requests" "I" "MatchingService" ∈ jNest := jH (jM1 (List.mem_of_getElem? (i := 53) rfl)) rfl
theorem kfl_X4_56 : Cond.fieldLink RX4 56 "MatchingService$Pool" "requests" "I" ∈ jAll := jgd (jM1 (List.mem_of_getElem? (i := 54) rfl)) rfl
theorem kfl_X4_27 : Cond.fieldLink RX4 27 "MatchingService$Pool" "group" "[I" ∈ jAll := jgd (jM1 (List.mem_of_getElem? (i := 55) rfl)) rfl
theorem kfn_X3_44 : Cond.fieldLinkNest RX3 44 "MatchingService$Pool" "group" "[I" "MatchingService" ∈ jNest := jH (jM1 (List.mem_of_getElem? (i := 56) rfl)) rfl
theorem kfn_X0_84 : Cond.fieldLinkNest RX0 84 "MatchingService$Pool" "group" "[I" "MatchingService" ∈ jNest := jH (jM1 (List.mem_of_getElem? (i := 57) rfl)) rfl
theorem kfl_X4_30 : Cond.fieldLink RX4 30 "MatchingService$Pool" "accepted" "[I" ∈ jAll := jgd (jM1 (List.mem_of_getElem? (i := 58) rfl)) rfl
theorem kfn_X2_34 : Cond.fieldLinkNest RX2 34 "MatchingService$Pool" "accepted" "[I" "MatchingService" ∈ jNest := jH (jM1 (List.mem_of_getElem? (i := 59) rfl)) rfl
theorem kfn_X0_73 : Cond.fieldLinkNest RX0 73 "MatchingService$Pool" "accepted" "[I" "MatchingService" ∈ jNest := jH (jM1 (List.mem_of_getElem? (i := 60) rfl)) rfl
theorem kfl_X4_33 : Cond.fieldLink RX4 33 "MatchingService$Pool" "place" "[I" ∈ jAll := jgd (jM1 (List.mem_of_getElem? (i := 61) rfl)) rfl
theorem kfn_X2_60 : Cond.fieldLinkNest RX2 60 "MatchingService$Pool" "place" "[I" "MatchingService" ∈ jNest := jH (jM1 (List.mem_of_getElem? (i := 62) rfl)) rfl
theorem kfn_X0_81 : Cond.fieldLinkNest RX0 81 "MatchingService$Pool" "place" "[I" "MatchingService" ∈ jNest := jH (jM1 (List.mem_of_getElem? (i := 63) rfl)) rfl
theorem kfn_X5_168 : Cond.fieldLinkNest RX5 168 "MatchingService$Pool" "place" "[I" "MatchingService" ∈ jNest := jH (jM1 (List.mem_of_getElem? (i := 64) rfl)) rfl
theorem kfl_X4_36 : Cond.fieldLink RX4 36 "MatchingService$Pool" "moves" "[I" ∈ jAll := jgd (jM1 (List.mem_of_getElem? (i := 65) rfl)) rfl
theorem kfn_X5_171 : Cond.fieldLinkNest RX5 171 "MatchingService$Pool" "moves" "[I" "MatchingService" ∈ jNest := jH (jM1 (List.mem_of_getElem? (i := 66) rfl)) rfl
theorem kfl_X4_39 : Cond.fieldLink RX4 39 "MatchingService$Pool" "pathLimit" "I" ∈ jAll := jgd (jM1 (List.mem_of_getElem? (i := 67) rfl)) rfl
theorem kfn_X3_67 : Cond.fieldLinkNest RX3 67 "MatchingService$Pool" "pathLimit" "I" "MatchingService" ∈ jNest := jH (jM1 (List.mem_of_getElem? (i := 68) rfl)) rfl
theorem kfn_X5_110 : Cond.fieldLinkNest RX5 110 "MatchingService$Pool" "pathLimit" "I" "MatchingService" ∈ jNest := jH (jM1 (List.mem_of_getElem? (i := 69) rfl)) rfl
theorem kfl_X4_43 : Cond.fieldLink RX4 43 "MatchingService$Pool" "moveLimit" "I" ∈ jAll := jgd (jM1 (List.mem_of_getElem? (i := 70) rfl)) rfl
theorem kfn_X5_113 : Cond.fieldLinkNest RX5 113 "MatchingService$Pool" "moveLimit" "I" "MatchingService" ∈ jNest := jH (jM1 (List.mem_of_getElem? (i := 71) rfl)) rfl
theorem kac_int : Cond.arrayClass .int ∈ jAll := jgd (jM1 (List.mem_of_getElem? (i := 99) rfl)) rfl
theorem kcl_X5_16 : Cond.classLink RX5 16 RX1 ∈ jAll := jgd (jM1 (List.mem_of_getElem? (i := 100) rfl)) rfl
theorem kin_X1 : Cond.instantiable RX1 3 ∈ jAll := jgd (jM1 (List.mem_of_getElem? (i := 101) rfl)) rfl
theorem kmn_X5_18 : Cond.methodLinkNest RX5 18 yX1_init "MatchingService" ∈ jNest := jH (jM1 (List.mem_of_getElem? (i := 102) rfl)) rfl
theorem kim_X1_init : Cond.instanceMethod yX1_init ∈ jAll := jgd (jM1 (List.mem_of_getElem? (i := 103) rfl)) rfl
theorem kco_X1_init : Cond.code yX1_init cX1_init 1 none ∈ jAll := jgd (jM1 (List.mem_of_getElem? (i := 104) rfl)) rfl
theorem kml_X1_3 : Cond.methodLink RX1 3 objectInit ∈ jAll := jgd (jM1 (List.mem_of_getElem? (i := 105) rfl)) rfl
theorem kfl_X1_11 : Cond.fieldLink RX1 11 "MatchingService$MoveLog" "request" "[I" ∈ jAll := jgd (jM1 (List.mem_of_getElem? (i := 106) rfl)) rfl
theorem kfn_X5_180 : Cond.fieldLinkNest RX5 180 "MatchingService$MoveLog" "request" "[I" "MatchingService" ∈ jNest := jH (jM1 (List.mem_of_getElem? (i := 107) rfl)) rfl
theorem kfl_X1_15 : Cond.fieldLink RX1 15 "MatchingService$MoveLog" "target" "[I" ∈ jAll := jgd (jM1 (List.mem_of_getElem? (i := 108) rfl)) rfl
theorem kfn_X5_183 : Cond.fieldLinkNest RX5 183 "MatchingService$MoveLog" "target" "[I" "MatchingService" ∈ jNest := jH (jM1 (List.mem_of_getElem? (i := 109) rfl)) rfl
theorem kfl_X1_18 : Cond.fieldLink RX1 18 "MatchingService$MoveLog" "size" "I" ∈ jAll := jgd (jM1 (List.mem_of_getElem? (i := 110) rfl)) rfl
theorem kfn_X5_174 : Cond.fieldLinkNest RX5 174 "MatchingService$MoveLog" "size" "I" "MatchingService" ∈ jNest := jH (jM1 (List.mem_of_getElem? (i := 111) rfl)) rfl
theorem kcl_X5_23 : Cond.classLink RX5 23 RX2 ∈ jAll := jgd (jM1 (List.mem_of_getElem? (i := 119) rfl)) rfl
theorem kin_X2 : Cond.instantiable RX2 6 ∈ jAll := jgd (jM1 (List.mem_of_getElem? (i := 120) rfl)) rfl
theorem kml_X5_25 : Cond.methodLink RX5 25 yX2_init ∈ jAll := jgd (jM1 (List.mem_of_getElem? (i := 121) rfl)) rfl
theorem kim_X2_init : Cond.instanceMethod yX2_init ∈ jAll := jgd (jM1 (List.mem_of_getElem? (i := 122) rfl)) rfl
theorem kco_X2_init : Cond.code yX2_init cX2_init 2 none ∈ jAll := jgd (jM1 (List.mem_of_getElem? (i := 123) rfl)) rfl
theorem kml_X2_3 : Cond.methodLink RX2 3 objectInit ∈ jAll := jgd (jM1 (List.mem_of_getElem? (i := 124) rfl)) rfl
theorem kfl_X2_24 : Cond.fieldLink RX2 24 "MatchingService$PathSearch" "pool" "LMatchingService$Pool;" ∈ jAll := jgd (jM1 (List.mem_of_getElem? (i := 125) rfl)) rfl
theorem kfl_X2_9 : Cond.fieldLink RX2 9 "MatchingService$PathSearch" "successors" "[I" ∈ jAll := jgd (jM1 (List.mem_of_getElem? (i := 126) rfl)) rfl
theorem kfl_X2_15 : Cond.fieldLink RX2 15 "MatchingService$PathSearch" "layer" "[I" ∈ jAll := jgd (jM1 (List.mem_of_getElem? (i := 127) rfl)) rfl
theorem kfl_X2_18 : Cond.fieldLink RX2 18 "MatchingService$PathSearch" "resource" "[I" ∈ jAll := jgd (jM1 (List.mem_of_getElem? (i := 128) rfl)) rfl
theorem kfn_X3_74 : Cond.fieldLinkNest RX3 74 "MatchingService$PathSearch" "resource" "[I" "MatchingService" ∈ jNest := jH (jM1 (List.mem_of_getElem? (i := 129) rfl)) rfl
theorem kfl_X2_21 : Cond.fieldLink RX2 21 "MatchingService$PathSearch" "request" "[I" ∈ jAll := jgd (jM1 (List.mem_of_getElem? (i := 130) rfl)) rfl
theorem kfn_X3_84 : Cond.fieldLinkNest RX3 84 "MatchingService$PathSearch" "request" "[I" "MatchingService" ∈ jNest := jH (jM1 (List.mem_of_getElem? (i := 131) rfl)) rfl
theorem kfl_X2_43 : Cond.fieldLink RX2 43 "MatchingService$PathSearch" "length" "I" ∈ jAll := jgd (jM1 (List.mem_of_getElem? (i := 132) rfl)) rfl
theorem kfn_X3_81 : Cond.fieldLinkNest RX3 81 "MatchingService$PathSearch" "length" "I" "MatchingService" ∈ jNest := jH (jM1 (List.mem_of_getElem? (i := 133) rfl)) rfl
theorem kcl_X5_32 : Cond.classLink RX5 32 RX3 ∈ jAll := jgd (jM1 (List.mem_of_getElem? (i := 147) rfl)) rfl
theorem kin_X3 : Cond.instantiable RX3 4 ∈ jAll := jgd (jM1 (List.mem_of_getElem? (i := 148) rfl)) rfl
theorem kml_X5_34 : Cond.methodLink RX5 34 yX3_init ∈ jAll := jgd (jM1 (List.mem_of_getElem? (i := 149) rfl)) rfl
theorem kim_X3_init : Cond.instanceMethod yX3_init ∈ jAll := jgd (jM1 (List.mem_of_getElem? (i := 150) rfl)) rfl
theorem kco_X3_init : Cond.code yX3_init cX3_init 4 none ∈ jAll := jgd (jM1 (List.mem_of_getElem? (i := 151) rfl)) rfl
theorem kml_X3_3 : Cond.methodLink RX3 3 objectInit ∈ jAll := jgd (jM1 (List.mem_of_getElem? (i := 152) rfl)) rfl
theorem kfl_X3_15 : Cond.fieldLink RX3 15 "MatchingService$Placer" "pool" "LMatchingService$Pool;" ∈ jAll := jgd (jM1 (List.mem_of_getElem? (i := 153) rfl)) rfl
theorem kfl_X3_19 : Cond.fieldLink RX3 19 "MatchingService$Placer" "paths" "LMatchingService$PathSearch;" ∈ jAll := jgd (jM1 (List.mem_of_getElem? (i := 154) rfl)) rfl
theorem kfl_X3_23 : Cond.fieldLink RX3 23 "MatchingService$Placer" "log" "LMatchingService$MoveLog;" ∈ jAll := jgd (jM1 (List.mem_of_getElem? (i := 155) rfl)) rfl
theorem kfl_X3_9 : Cond.fieldLink RX3 9 "MatchingService$Placer" "tried" "[Z" ∈ jAll := jgd (jM1 (List.mem_of_getElem? (i := 156) rfl)) rfl
theorem kac_boolean : Cond.arrayClass .boolean ∈ jAll := jgd (jM1 (List.mem_of_getElem? (i := 166) rfl)) rfl
theorem kcl_X5_41 : Cond.classLink RX5 41 RX0 ∈ jAll := jgd (jM1 (List.mem_of_getElem? (i := 167) rfl)) rfl
theorem kin_X0 : Cond.instantiable RX0 10 ∈ jAll := jgd (jM1 (List.mem_of_getElem? (i := 168) rfl)) rfl
theorem kml_X5_43 : Cond.methodLink RX5 43 yX0_init ∈ jAll := jgd (jM1 (List.mem_of_getElem? (i := 169) rfl)) rfl
theorem kim_X0_init : Cond.instanceMethod yX0_init ∈ jAll := jgd (jM1 (List.mem_of_getElem? (i := 170) rfl)) rfl
theorem kco_X0_init : Cond.code yX0_init cX0_init 2 none ∈ jAll := jgd (jM1 (List.mem_of_getElem? (i := 171) rfl)) rfl
theorem kml_X0_3 : Cond.methodLink RX0 3 objectInit ∈ jAll := jgd (jM1 (List.mem_of_getElem? (i := 172) rfl)) rfl
theorem kfl_X0_37 : Cond.fieldLink RX0 37 "MatchingService$Flow" "pool" "LMatchingService$Pool;" ∈ jAll := jgd (jM1 (List.mem_of_getElem? (i := 173) rfl)) rfl
theorem kfl_X0_9 : Cond.fieldLink RX0 9 "MatchingService$Flow" "node" "[I" ∈ jAll := jgd (jM1 (List.mem_of_getElem? (i := 174) rfl)) rfl
theorem kfl_X0_15 : Cond.fieldLink RX0 15 "MatchingService$Flow" "accepted" "[I" ∈ jAll := jgd (jM1 (List.mem_of_getElem? (i := 175) rfl)) rfl
theorem kfl_X0_18 : Cond.fieldLink RX0 18 "MatchingService$Flow" "load" "[I" ∈ jAll := jgd (jM1 (List.mem_of_getElem? (i := 176) rfl)) rfl
theorem kfl_X0_21 : Cond.fieldLink RX0 21 "MatchingService$Flow" "used" "[I" ∈ jAll := jgd (jM1 (List.mem_of_getElem? (i := 177) rfl)) rfl
theorem kfl_X0_24 : Cond.fieldLink RX0 24 "MatchingService$Flow" "queue" "[I" ∈ jAll := jgd (jM1 (List.mem_of_getElem? (i := 178) rfl)) rfl
theorem kfl_X0_90 : Cond.fieldLink RX0 90 "MatchingService$Flow" "queued" "I" ∈ jAll := jgd (jM1 (List.mem_of_getElem? (i := 179) rfl)) rfl
theorem kfl_X0_27 : Cond.fieldLink RX0 27 "MatchingService$Flow" "seen" "[Z" ∈ jAll := jgd (jM1 (List.mem_of_getElem? (i := 180) rfl)) rfl
theorem kfl_X0_31 : Cond.fieldLink RX0 31 "MatchingService$Flow" "before" "[I" ∈ jAll := jgd (jM1 (List.mem_of_getElem? (i := 181) rfl)) rfl
theorem kfl_X0_34 : Cond.fieldLink RX0 34 "MatchingService$Flow" "carried" "[I" ∈ jAll := jgd (jM1 (List.mem_of_getElem? (i := 182) rfl)) rfl
theorem kfl_X5_10 : Cond.fieldLink RX5 10 "MatchingService" "pool" "LMatchingService$Pool;" ∈ jAll := jgd (jM1 (List.mem_of_getElem? (i := 204) rfl)) rfl
theorem kfl_X5_19 : Cond.fieldLink RX5 19 "MatchingService" "log" "LMatchingService$MoveLog;" ∈ jAll := jgd (jM1 (List.mem_of_getElem? (i := 205) rfl)) rfl
theorem kfl_X5_28 : Cond.fieldLink RX5 28 "MatchingService" "paths" "LMatchingService$PathSearch;" ∈ jAll := jgd (jM1 (List.mem_of_getElem? (i := 206) rfl)) rfl
theorem kfl_X5_37 : Cond.fieldLink RX5 37 "MatchingService" "placer" "LMatchingService$Placer;" ∈ jAll := jgd (jM1 (List.mem_of_getElem? (i := 207) rfl)) rfl
theorem kfl_X5_44 : Cond.fieldLink RX5 44 "MatchingService" "flow" "LMatchingService$Flow;" ∈ jAll := jgd (jM1 (List.mem_of_getElem? (i := 208) rfl)) rfl
theorem kml_L_103 : Cond.methodLink RL 103 yX5_resourceCount ∈ jAll := jgd (jM1 (List.mem_of_getElem? (i := 220) rfl)) rfl
theorem kim_X5_resourceCount : Cond.instanceMethod yX5_resourceCount ∈ jAll := jgd (jM1 (List.mem_of_getElem? (i := 221) rfl)) rfl
theorem kse_X5_resourceCount : Cond.selects RX5 yX5_resourceCount yX5_resourceCount ∈ jAll := jgd (jM1 (List.mem_of_getElem? (i := 222) rfl)) rfl
theorem kco_X5_resourceCount : Cond.code yX5_resourceCount cX5_resourceCount 1 (some .int) ∈ jAll := jgd (jM1 (List.mem_of_getElem? (i := 223) rfl)) rfl
theorem kml_L_107 : Cond.methodLink RL 107 yX5_arrivedCount ∈ jAll := jgd (jM1 (List.mem_of_getElem? (i := 224) rfl)) rfl
theorem kim_X5_arrivedCount : Cond.instanceMethod yX5_arrivedCount ∈ jAll := jgd (jM1 (List.mem_of_getElem? (i := 225) rfl)) rfl
theorem kse_X5_arrivedCount : Cond.selects RX5 yX5_arrivedCount yX5_arrivedCount ∈ jAll := jgd (jM1 (List.mem_of_getElem? (i := 226) rfl)) rfl
theorem kco_X5_arrivedCount : Cond.code yX5_arrivedCount cX5_arrivedCount 1 (some .int) ∈ jAll := jgd (jM1 (List.mem_of_getElem? (i := 227) rfl)) rfl
theorem kml_L_111 : Cond.methodLink RL 111 yX5_assignedCount ∈ jAll := jgd (jM1 (List.mem_of_getElem? (i := 228) rfl)) rfl
theorem kim_X5_assignedCount : Cond.instanceMethod yX5_assignedCount ∈ jAll := jgd (jM1 (List.mem_of_getElem? (i := 229) rfl)) rfl
theorem kse_X5_assignedCount : Cond.selects RX5 yX5_assignedCount yX5_assignedCount ∈ jAll := jgd (jM1 (List.mem_of_getElem? (i := 230) rfl)) rfl
theorem kco_X5_assignedCount : Cond.code yX5_assignedCount cX5_assignedCount 1 (some .int) ∈ jAll := jgd (jM1 (List.mem_of_getElem? (i := 231) rfl)) rfl
theorem kml_X5_145 : Cond.methodLink RX5 145 yX4_countAssigned ∈ jAll := jgd (jM1 (List.mem_of_getElem? (i := 232) rfl)) rfl
theorem kim_X4_countAssigned : Cond.instanceMethod yX4_countAssigned ∈ jAll := jgd (jM1 (List.mem_of_getElem? (i := 233) rfl)) rfl
theorem kse_X4_countAssigned : Cond.selects RX4 yX4_countAssigned yX4_countAssigned ∈ jAll := jgd (jM1 (List.mem_of_getElem? (i := 234) rfl)) rfl
theorem kco_X4_countAssigned : Cond.code yX4_countAssigned cX4_countAssigned 3 (some .int) ∈ jAll := jgd (jM1 (List.mem_of_getElem? (i := 235) rfl)) rfl
theorem kml_L_115 : Cond.methodLink RL 115 yX5_waitingCount ∈ jAll := jgd (jM1 (List.mem_of_getElem? (i := 236) rfl)) rfl
theorem kim_X5_waitingCount : Cond.instanceMethod yX5_waitingCount ∈ jAll := jgd (jM1 (List.mem_of_getElem? (i := 237) rfl)) rfl
theorem kse_X5_waitingCount : Cond.selects RX5 yX5_waitingCount yX5_waitingCount ∈ jAll := jgd (jM1 (List.mem_of_getElem? (i := 238) rfl)) rfl
theorem kco_X5_waitingCount : Cond.code yX5_waitingCount cX5_waitingCount 1 (some .int) ∈ jAll := jgd (jM1 (List.mem_of_getElem? (i := 239) rfl)) rfl
theorem kml_X5_148 : Cond.methodLink RX5 148 yX4_countWaiting ∈ jAll := jgd (jM2 (List.mem_of_getElem? (i := 0) rfl)) rfl
theorem kim_X4_countWaiting : Cond.instanceMethod yX4_countWaiting ∈ jAll := jgd (jM2 (List.mem_of_getElem? (i := 1) rfl)) rfl
theorem kse_X4_countWaiting : Cond.selects RX4 yX4_countWaiting yX4_countWaiting ∈ jAll := jgd (jM2 (List.mem_of_getElem? (i := 2) rfl)) rfl
theorem kco_X4_countWaiting : Cond.code yX4_countWaiting cX4_countWaiting 3 (some .int) ∈ jAll := jgd (jM2 (List.mem_of_getElem? (i := 3) rfl)) rfl
theorem kml_X4_49 : Cond.methodLink RX4 49 yX4_isWaiting ∈ jAll := jgd (jM2 (List.mem_of_getElem? (i := 4) rfl)) rfl
theorem kim_X4_isWaiting : Cond.instanceMethod yX4_isWaiting ∈ jAll := jgd (jM2 (List.mem_of_getElem? (i := 5) rfl)) rfl
theorem kse_X4_isWaiting : Cond.selects RX4 yX4_isWaiting yX4_isWaiting ∈ jAll := jgd (jM2 (List.mem_of_getElem? (i := 6) rfl)) rfl
theorem kco_X4_isWaiting : Cond.code yX4_isWaiting cX4_isWaiting 2 (some .boolean) ∈ jAll := jgd (jM2 (List.mem_of_getElem? (i := 7) rfl)) rfl
theorem kml_L_134 : Cond.methodLink RL 134 yX5_moveCount ∈ jAll := jgd (jM2 (List.mem_of_getElem? (i := 8) rfl)) rfl
theorem kim_X5_moveCount : Cond.instanceMethod yX5_moveCount ∈ jAll := jgd (jM2 (List.mem_of_getElem? (i := 9) rfl)) rfl
theorem kse_X5_moveCount : Cond.selects RX5 yX5_moveCount yX5_moveCount ∈ jAll := jgd (jM2 (List.mem_of_getElem? (i := 10) rfl)) rfl
theorem kco_X5_moveCount : Cond.code yX5_moveCount cX5_moveCount 1 (some .int) ∈ jAll := jgd (jM2 (List.mem_of_getElem? (i := 11) rfl)) rfl
theorem kml_L_147 : Cond.methodLink RL 147 yX5_greatestPossible ∈ jAll := jgd (jM2 (List.mem_of_getElem? (i := 12) rfl)) rfl
theorem kim_X5_greatestPossible : Cond.instanceMethod yX5_greatestPossible ∈ jAll := jgd (jM2 (List.mem_of_getElem? (i := 13) rfl)) rfl
theorem kse_X5_greatestPossible : Cond.selects RX5 yX5_greatestPossible yX5_greatestPossible ∈ jAll := jgd (jM2 (List.mem_of_getElem? (i := 14) rfl)) rfl
theorem kco_X5_greatestPossible : Cond.code yX5_greatestPossible cX5_greatestPossible 1 (some .int) ∈ jAll := jgd (jM2 (List.mem_of_getElem? (i := 15) rfl)) rfl
theorem kml_X5_194 : Cond.methodLink RX5 194 yX0_greatest ∈ jAll := jgd (jM2 (List.mem_of_getElem? (i := 16) rfl)) rfl
theorem kim_X0_greatest : Cond.instanceMethod yX0_greatest ∈ jAll := jgd (jM2 (List.mem_of_getElem? (i := 17) rfl)) rfl
theorem kse_X0_greatest : Cond.selects RX0 yX0_greatest yX0_greatest ∈ jAll := jgd (jM2 (List.mem_of_getElem? (i := 18) rfl)) rfl
theorem kco_X0_greatest : Cond.code yX0_greatest cX0_greatest 4 (some .int) ∈ jAll := jgd (jM2 (List.mem_of_getElem? (i := 19) rfl)) rfl
theorem kml_X0_41 : Cond.methodLink RX0 41 yX0_copyAssignment ∈ jAll := jgd (jM2 (List.mem_of_getElem? (i := 20) rfl)) rfl
theorem kim_X0_copyAssignment : Cond.instanceMethod yX0_copyAssignment ∈ jAll := jgd (jM2 (List.mem_of_getElem? (i := 22) rfl)) rfl
theorem kco_X0_copyAssignment : Cond.code yX0_copyAssignment cX0_copyAssignment 3 none ∈ jAll := jgd (jM2 (List.mem_of_getElem? (i := 23) rfl)) rfl
theorem kml_X0_66 : Cond.methodLink RX0 66 yX0_startOf ∈ jAll := jgd (jM2 (List.mem_of_getElem? (i := 24) rfl)) rfl
theorem kim_X0_startOf : Cond.instanceMethod yX0_startOf ∈ jAll := jgd (jM2 (List.mem_of_getElem? (i := 26) rfl)) rfl
theorem kco_X0_startOf : Cond.code yX0_startOf cX0_startOf 2 (some .int) ∈ jAll := jgd (jM2 (List.mem_of_getElem? (i := 27) rfl)) rfl
theorem kml_X0_74 : Cond.methodLink RX0 74 yX4_isDeparted ∈ jAll := jgd (jM2 (List.mem_of_getElem? (i := 28) rfl)) rfl
theorem kim_X4_isDeparted : Cond.instanceMethod yX4_isDeparted ∈ jAll := jgd (jM2 (List.mem_of_getElem? (i := 29) rfl)) rfl
theorem kse_X4_isDeparted : Cond.selects RX4 yX4_isDeparted yX4_isDeparted ∈ jAll := jgd (jM2 (List.mem_of_getElem? (i := 30) rfl)) rfl
theorem kco_X4_isDeparted : Cond.code yX4_isDeparted cX4_isDeparted 2 (some .boolean) ∈ jAll := jgd (jM2 (List.mem_of_getElem? (i := 31) rfl)) rfl
theorem kml_X0_78 : Cond.methodLink RX0 78 yX4_isAssigned ∈ jAll := jgd (jM2 (List.mem_of_getElem? (i := 32) rfl)) rfl
theorem kim_X4_isAssigned : Cond.instanceMethod yX4_isAssigned ∈ jAll := jgd (jM2 (List.mem_of_getElem? (i := 33) rfl)) rfl
theorem kse_X4_isAssigned : Cond.selects RX4 yX4_isAssigned yX4_isAssigned ∈ jAll := jgd (jM2 (List.mem_of_getElem? (i := 34) rfl)) rfl
theorem kco_X4_isAssigned : Cond.code yX4_isAssigned cX4_isAssigned 2 (some .boolean) ∈ jAll := jgd (jM2 (List.mem_of_getElem? (i := 35) rfl)) rfl
theorem kml_X0_70 : Cond.methodLink RX0 70 yX4_maskOfAll ∈ jAll := jgd (jM2 (List.mem_of_getElem? (i := 36) rfl)) rfl
theorem kim_X4_maskOfAll : Cond.instanceMethod yX4_maskOfAll ∈ jAll := jgd (jM2 (List.mem_of_getElem? (i := 37) rfl)) rfl
theorem kse_X4_maskOfAll : Cond.selects RX4 yX4_maskOfAll yX4_maskOfAll ∈ jAll := jgd (jM2 (List.mem_of_getElem? (i := 38) rfl)) rfl
theorem kco_X4_maskOfAll : Cond.code yX4_maskOfAll cX4_maskOfAll 1 (some .int) ∈ jAll := jgd (jM2 (List.mem_of_getElem? (i := 39) rfl)) rfl
theorem kml_X0_45 : Cond.methodLink RX0 45 yX4_countAssigned ∈ jAll := jgd (jM2 (List.mem_of_getElem? (i := 40) rfl)) rfl
theorem kml_X0_55 : Cond.methodLink RX0 55 yX0_augment ∈ jAll := jgd (jM2 (List.mem_of_getElem? (i := 41) rfl)) rfl
theorem kim_X0_augment : Cond.instanceMethod yX0_augment ∈ jAll := jgd (jM2 (List.mem_of_getElem? (i := 43) rfl)) rfl
theorem kco_X0_augment : Cond.code yX0_augment cX0_augment 3 (some .boolean) ∈ jAll := jgd (jM2 (List.mem_of_getElem? (i := 44) rfl)) rfl
theorem kml_X0_87 : Cond.methodLink RX0 87 yX0_startAtGroups ∈ jAll := jgd (jM2 (List.mem_of_getElem? (i := 45) rfl)) rfl
theorem kim_X0_startAtGroups : Cond.instanceMethod yX0_startAtGroups ∈ jAll := jgd (jM2 (List.mem_of_getElem? (i := 47) rfl)) rfl
theorem kco_X0_startAtGroups : Cond.code yX0_startAtGroups cX0_startAtGroups 2 none ∈ jAll := jgd (jM2 (List.mem_of_getElem? (i := 48) rfl)) rfl
theorem kml_X0_102 : Cond.methodLink RX0 102 yX0_reach ∈ jAll := jgd (jM2 (List.mem_of_getElem? (i := 49) rfl)) rfl
theorem kim_X0_reach : Cond.instanceMethod yX0_reach ∈ jAll := jgd (jM2 (List.mem_of_getElem? (i := 51) rfl)) rfl
theorem kco_X0_reach : Cond.code yX0_reach cX0_reach 4 none ∈ jAll := jgd (jM2 (List.mem_of_getElem? (i := 52) rfl)) rfl
theorem kml_X0_93 : Cond.methodLink RX0 93 yX0_leave ∈ jAll := jgd (jM2 (List.mem_of_getElem? (i := 53) rfl)) rfl
theorem kim_X0_leave : Cond.instanceMethod yX0_leave ∈ jAll := jgd (jM2 (List.mem_of_getElem? (i := 55) rfl)) rfl
theorem kco_X0_leave : Cond.code yX0_leave cX0_leave 4 (some .int) ∈ jAll := jgd (jM2 (List.mem_of_getElem? (i := 56) rfl)) rfl
theorem kml_X0_106 : Cond.methodLink RX0 106 yX0_leaveWith ∈ jAll := jgd (jM2 (List.mem_of_getElem? (i := 57) rfl)) rfl
theorem kim_X0_leaveWith : Cond.instanceMethod yX0_leaveWith ∈ jAll := jgd (jM2 (List.mem_of_getElem? (i := 59) rfl)) rfl
theorem kco_X0_leaveWith : Cond.code yX0_leaveWith cX0_leaveWith 4 (some .int) ∈ jAll := jgd (jM2 (List.mem_of_getElem? (i := 60) rfl)) rfl
theorem kmn_X0_110 : Cond.methodLinkNest RX0 110 yX5_hasBit "MatchingService" ∈ jNest := jH (jM2 (List.mem_of_getElem? (i := 61) rfl)) rfl
theorem kst_X5_hasBit : Cond.static yX5_hasBit ∈ jAll := jgd (jM2 (List.mem_of_getElem? (i := 62) rfl)) rfl
theorem kco_X5_hasBit : Cond.code yX5_hasBit cX5_hasBit 2 (some .boolean) ∈ jAll := jgd (jM2 (List.mem_of_getElem? (i := 63) rfl)) rfl
theorem kml_X0_96 : Cond.methodLink RX0 96 yX0_shiftAlong ∈ jAll := jgd (jM2 (List.mem_of_getElem? (i := 64) rfl)) rfl
theorem kim_X0_shiftAlong : Cond.instanceMethod yX0_shiftAlong ∈ jAll := jgd (jM2 (List.mem_of_getElem? (i := 66) rfl)) rfl
theorem kco_X0_shiftAlong : Cond.code yX0_shiftAlong cX0_shiftAlong 4 none ∈ jAll := jgd (jM2 (List.mem_of_getElem? (i := 67) rfl)) rfl
theorem kml_L_154 : Cond.methodLink RL 154 yX5_fairness ∈ jAll := jgd (jM2 (List.mem_of_getElem? (i := 68) rfl)) rfl
theorem kim_X5_fairness : Cond.instanceMethod yX5_fairness ∈ jAll := jgd (jM2 (List.mem_of_getElem? (i := 69) rfl)) rfl
theorem kse_X5_fairness : Cond.selects RX5 yX5_fairness yX5_fairness ∈ jAll := jgd (jM2 (List.mem_of_getElem? (i := 70) rfl)) rfl
theorem kco_X5_fairness : Cond.code yX5_fairness cX5_fairness 8 (some .double) ∈ jAll := jgd (jM2 (List.mem_of_getElem? (i := 71) rfl)) rfl
theorem kcn_X5_200 : Cond.constantDouble RX5 200 (4616189618054758400 : UInt64) ∈ jAll := jgd (jM2 (List.mem_of_getElem? (i := 72) rfl)) rfl
theorem kml_L_159 : Cond.methodLink RL 159 yX5_digest ∈ jAll := jgd (jM2 (List.mem_of_getElem? (i := 73) rfl)) rfl
theorem kim_X5_digest : Cond.instanceMethod yX5_digest ∈ jAll := jgd (jM2 (List.mem_of_getElem? (i := 74) rfl)) rfl
theorem kse_X5_digest : Cond.selects RX5 yX5_digest yX5_digest ∈ jAll := jgd (jM2 (List.mem_of_getElem? (i := 75) rfl)) rfl
theorem kco_X5_digest : Cond.code yX5_digest cX5_digest 4 (some .long) ∈ jAll := jgd (jM2 (List.mem_of_getElem? (i := 76) rfl)) rfl
theorem kcn_X5_202 : Cond.constantLong RX5 202 (43 : Int64) ∈ jAll := jgd (jM2 (List.mem_of_getElem? (i := 77) rfl)) rfl
theorem kml_X5_204 : Cond.methodLink RX5 204 yX5_mix ∈ jAll := jgd (jM2 (List.mem_of_getElem? (i := 78) rfl)) rfl
theorem kst_X5_mix : Cond.static yX5_mix ∈ jAll := jgd (jM2 (List.mem_of_getElem? (i := 79) rfl)) rfl
theorem kco_X5_mix : Cond.code yX5_mix cX5_mix 3 (some .long) ∈ jAll := jgd (jM2 (List.mem_of_getElem? (i := 80) rfl)) rfl
theorem kcn_X5_230 : Cond.constantLong RX5 230 (31 : Int64) ∈ jAll := jgd (jM2 (List.mem_of_getElem? (i := 81) rfl)) rfl
theorem kml_X5_160 : Cond.methodLink RX5 160 yX4_stateNumber ∈ jAll := jgd (jM2 (List.mem_of_getElem? (i := 82) rfl)) rfl
theorem kim_X4_stateNumber : Cond.instanceMethod yX4_stateNumber ∈ jAll := jgd (jM2 (List.mem_of_getElem? (i := 83) rfl)) rfl
theorem kse_X4_stateNumber : Cond.selects RX4 yX4_stateNumber yX4_stateNumber ∈ jAll := jgd (jM2 (List.mem_of_getElem? (i := 84) rfl)) rfl
theorem kco_X4_stateNumber : Cond.code yX4_stateNumber cX4_stateNumber 2 (some .int) ∈ jAll := jgd (jM2 (List.mem_of_getElem? (i := 85) rfl)) rfl
theorem kml_X4_53 : Cond.methodLink RX4 53 yX4_isAssigned ∈ jAll := jgd (jM2 (List.mem_of_getElem? (i := 86) rfl)) rfl
theorem kml_X5_142 : Cond.methodLink RX5 142 yX4_isAssigned ∈ jAll := jgd (jM2 (List.mem_of_getElem? (i := 87) rfl)) rfl
theorem kml_L_73 : Cond.methodLink RL 73 yL_addResource ∈ jAll := jgd (jM2 (List.mem_of_getElem? (i := 88) rfl)) rfl
theorem kst_L_addResource : Cond.static yL_addResource ∈ jAll := jgd (jM2 (List.mem_of_getElem? (i := 89) rfl)) rfl
theorem kco_L_addResource : Cond.codeWith yL_addResource cL_addResource 4 (some .int) [(0, 9, 12, 13), (0, 9, 15, 15)] ∈ jAll := jgd (jM2 (List.mem_of_getElem? (i := 90) rfl)) rfl
theorem kcl_L_13 : Cond.classLink RL 13 "java/lang/IllegalArgumentException" ∈ jAll := jgd (jM2 (List.mem_of_getElem? (i := 91) rfl)) rfl
theorem kcl_L_15 : Cond.classLink RL 15 "java/lang/IllegalStateException" ∈ jAll := jgd (jM2 (List.mem_of_getElem? (i := 92) rfl)) rfl
theorem kml_L_7 : Cond.methodLink RL 7 yX5_addResource ∈ jAll := jgd (jM2 (List.mem_of_getElem? (i := 93) rfl)) rfl
theorem kim_X5_addResource : Cond.instanceMethod yX5_addResource ∈ jAll := jgd (jM2 (List.mem_of_getElem? (i := 94) rfl)) rfl
theorem kse_X5_addResource : Cond.selects RX5 yX5_addResource yX5_addResource ∈ jAll := jgd (jM2 (List.mem_of_getElem? (i := 95) rfl)) rfl
theorem kco_X5_addResource : Cond.code yX5_addResource cX5_addResource 3 (some .int) ∈ jAll := jgd (jM2 (List.mem_of_getElem? (i := 96) rfl)) rfl
theorem kml_X5_48 : Cond.methodLink RX5 48 yX5_isWithin ∈ jAll := jgd (jM2 (List.mem_of_getElem? (i := 97) rfl)) rfl
theorem kst_X5_isWithin : Cond.static yX5_isWithin ∈ jAll := jgd (jM2 (List.mem_of_getElem? (i := 98) rfl)) rfl
theorem kco_X5_isWithin : Cond.code yX5_isWithin cX5_isWithin 3 (some .boolean) ∈ jAll := jgd (jM2 (List.mem_of_getElem? (i := 99) rfl)) rfl
theorem kcl_X5_52 : Cond.classLink RX5 52 "java/lang/IllegalArgumentException" ∈ jAll := jgd (jM2 (List.mem_of_getElem? (i := 100) rfl)) rfl
theorem kin__java_lang_IllegalArgumentException_ : Cond.instantiable "java/lang/IllegalArgumentException" 6 ∈ jAll := jgd (jM2 (List.mem_of_getElem? (i := 101) rfl)) rfl
theorem kfl__java_lang_Throwable__198 : Cond.fieldLink "java/lang/Throwable" 198 "java/lang/Throwable" "backtrace" "Ljava/lang/Object;" ∈ jAll := jgd (jM2 (List.mem_of_getElem? (i := 121) rfl)) rfl
theorem kim_Throwable__init___V : Cond.instanceMethod ⟨"java/lang/Throwable", "<init>", "()V"⟩ ∈ jAll := jgd (jM2 (List.mem_of_getElem? (i := 123) rfl)) rfl
theorem kml__java_lang_Throwable__1 : Cond.methodLink "java/lang/Throwable" 1 objectInit ∈ jAll := jgd (jM2 (List.mem_of_getElem? (i := 125) rfl)) rfl
theorem kfl__java_lang_Throwable__13 : Cond.fieldLink "java/lang/Throwable" 13 "java/lang/Throwable" "UNASSIGNED_STACK" "[Ljava/lang/StackTraceElement;" ∈ jAll := jgd (jM2 (List.mem_of_getElem? (i := 126) rfl)) rfl
theorem kfl__java_lang_Throwable__20 : Cond.fieldLink "java/lang/Throwable" 20 "java/lang/Throwable" "SUPPRESSED_SENTINEL" "Ljava/util/List;" ∈ jAll := jgd (jM2 (List.mem_of_getElem? (i := 128) rfl)) rfl
theorem kml__java_lang_Throwable__27 : Cond.methodLink "java/lang/Throwable" 27 ⟨"java/lang/Throwable", "fillInStackTrace", "()Ljava/lang/Throwable;"⟩ ∈ jAll := jgd (jM2 (List.mem_of_getElem? (i := 130) rfl)) rfl
theorem kim_Throwable_fillInStackTrace__Ljava_lang_Throwable_ : Cond.instanceMethod ⟨"java/lang/Throwable", "fillInStackTrace", "()Ljava/lang/Throwable;"⟩ ∈ jAll := jgd (jM2 (List.mem_of_getElem? (i := 131) rfl)) rfl
theorem kml__java_lang_Throwable__202 : Cond.methodLink "java/lang/Throwable" 202 ⟨"java/lang/Throwable", "fillInStackTrace", "(I)Ljava/lang/Throwable;"⟩ ∈ jAll := jgd (jM2 (List.mem_of_getElem? (i := 137) rfl)) rfl
theorem kim_Throwable_fillInStackTrace_I_Ljava_lang_Throwable_ : Cond.instanceMethod ⟨"java/lang/Throwable", "fillInStackTrace", "(I)Ljava/lang/Throwable;"⟩ ∈ jAll := jgd (jM2 (List.mem_of_getElem? (i := 139) rfl)) rfl
theorem kin__java_lang_Throwable_ : Cond.instantiable "java/lang/Throwable" 6 ∈ jAll := jgd (jM2 (List.mem_of_getElem? (i := 140) rfl)) rfl
theorem kml_X5_56 : Cond.methodLink RX5 56 ⟨"java/lang/IllegalArgumentException", "<init>", "(Ljava/lang/String;)V"⟩ ∈ jAll := jgd (jM2 (List.mem_of_getElem? (i := 143) rfl)) rfl
theorem kim_IllegalArgumentException__init__Ljava_lang_String__V : Cond.instanceMethod ⟨"java/lang/IllegalArgumentException", "<init>", "(Ljava/lang/String;)V"⟩ ∈ jAll := jgd (jM2 (List.mem_of_getElem? (i := 144) rfl)) rfl
theorem kml__java_lang_IllegalArgumentException__7 : Cond.methodLink "java/lang/IllegalArgumentException" 7 ⟨"java/lang/RuntimeException", "<init>", "(Ljava/lang/String;)V"⟩ ∈ jAll := jgd (jM2 (List.mem_of_getElem? (i := 146) rfl)) rfl
theorem kim_RuntimeException__init__Ljava_lang_String__V : Cond.instanceMethod ⟨"java/lang/RuntimeException", "<init>", "(Ljava/lang/String;)V"⟩ ∈ jAll := jgd (jM2 (List.mem_of_getElem? (i := 147) rfl)) rfl
theorem kml__java_lang_RuntimeException__7 : Cond.methodLink "java/lang/RuntimeException" 7 ⟨"java/lang/Exception", "<init>", "(Ljava/lang/String;)V"⟩ ∈ jAll := jgd (jM2 (List.mem_of_getElem? (i := 149) rfl)) rfl
theorem kim_Exception__init__Ljava_lang_String__V : Cond.instanceMethod ⟨"java/lang/Exception", "<init>", "(Ljava/lang/String;)V"⟩ ∈ jAll := jgd (jM2 (List.mem_of_getElem? (i := 150) rfl)) rfl
theorem kml__java_lang_Exception__7 : Cond.methodLink "java/lang/Exception" 7 ⟨"java/lang/Throwable", "<init>", "(Ljava/lang/String;)V"⟩ ∈ jAll := jgd (jM2 (List.mem_of_getElem? (i := 152) rfl)) rfl
theorem kim_Throwable__init__Ljava_lang_String__V : Cond.instanceMethod ⟨"java/lang/Throwable", "<init>", "(Ljava/lang/String;)V"⟩ ∈ jAll := jgd (jM2 (List.mem_of_getElem? (i := 153) rfl)) rfl
theorem kfl__java_lang_Throwable__31 : Cond.fieldLink "java/lang/Throwable" 31 "java/lang/Throwable" "detailMessage" "Ljava/lang/String;" ∈ jAll := jgd (jM2 (List.mem_of_getElem? (i := 156) rfl)) rfl
theorem kfl__java_lang_Throwable__7 : Cond.fieldLink "java/lang/Throwable" 7 "java/lang/Throwable" "cause" "Ljava/lang/Throwable;" ∈ jAll := jgd (jM2 (List.mem_of_getElem? (i := 157) rfl)) rfl
theorem kfl__java_lang_Throwable__17 : Cond.fieldLink "java/lang/Throwable" 17 "java/lang/Throwable" "stackTrace" "[Ljava/lang/StackTraceElement;" ∈ jAll := jgd (jM2 (List.mem_of_getElem? (i := 158) rfl)) rfl
theorem kfl__java_lang_Throwable__24 : Cond.fieldLink "java/lang/Throwable" 24 "java/lang/Throwable" "suppressedExceptions" "Ljava/util/List;" ∈ jAll := jgd (jM2 (List.mem_of_getElem? (i := 159) rfl)) rfl
theorem kac_byte : Cond.arrayClass .byte ∈ jAll := jgd (jM2 (List.mem_of_getElem? (i := 168) rfl)) rfl
theorem kcl_X5_63 : Cond.classLink RX5 63 "java/lang/IllegalStateException" ∈ jAll := jgd (jM2 (List.mem_of_getElem? (i := 169) rfl)) rfl
theorem kin__java_lang_IllegalStateException_ : Cond.instantiable "java/lang/IllegalStateException" 6 ∈ jAll := jgd (jM2 (List.mem_of_getElem? (i := 170) rfl)) rfl
theorem kml_X5_67 : Cond.methodLink RX5 67 ⟨"java/lang/IllegalStateException", "<init>", "(Ljava/lang/String;)V"⟩ ∈ jAll := jgd (jM2 (List.mem_of_getElem? (i := 179) rfl)) rfl
theorem kim_IllegalStateException__init__Ljava_lang_String__V : Cond.instanceMethod ⟨"java/lang/IllegalStateException", "<init>", "(Ljava/lang/String;)V"⟩ ∈ jAll := jgd (jM2 (List.mem_of_getElem? (i := 180) rfl)) rfl
theorem kml__java_lang_IllegalStateException__7 : Cond.methodLink "java/lang/IllegalStateException" 7 ⟨"java/lang/RuntimeException", "<init>", "(Ljava/lang/String;)V"⟩ ∈ jAll := jgd (jM2 (List.mem_of_getElem? (i := 182) rfl)) rfl
theorem kml_X5_68 : Cond.methodLink RX5 68 yX1_clear ∈ jAll := jgd (jM2 (List.mem_of_getElem? (i := 185) rfl)) rfl
theorem kim_X1_clear : Cond.instanceMethod yX1_clear ∈ jAll := jgd (jM2 (List.mem_of_getElem? (i := 186) rfl)) rfl
theorem kse_X1_clear : Cond.selects RX1 yX1_clear yX1_clear ∈ jAll := jgd (jM2 (List.mem_of_getElem? (i := 187) rfl)) rfl
theorem kco_X1_clear : Cond.code yX1_clear cX1_clear 1 none ∈ jAll := jgd (jM2 (List.mem_of_getElem? (i := 188) rfl)) rfl
theorem kml_X5_71 : Cond.methodLink RX5 71 yX4_openResource ∈ jAll := jgd (jM2 (List.mem_of_getElem? (i := 189) rfl)) rfl
theorem kim_X4_openResource : Cond.instanceMethod yX4_openResource ∈ jAll := jgd (jM2 (List.mem_of_getElem? (i := 190) rfl)) rfl
theorem kse_X4_openResource : Cond.selects RX4 yX4_openResource yX4_openResource ∈ jAll := jgd (jM2 (List.mem_of_getElem? (i := 191) rfl)) rfl
theorem kco_X4_openResource : Cond.code yX4_openResource cX4_openResource 3 (some .int) ∈ jAll := jgd (jM2 (List.mem_of_getElem? (i := 192) rfl)) rfl
theorem kml_X5_75 : Cond.methodLink RX5 75 yX3_runOnce ∈ jAll := jgd (jM2 (List.mem_of_getElem? (i := 193) rfl)) rfl
theorem kim_X3_runOnce : Cond.instanceMethod yX3_runOnce ∈ jAll := jgd (jM2 (List.mem_of_getElem? (i := 194) rfl)) rfl
theorem kse_X3_runOnce : Cond.selects RX3 yX3_runOnce yX3_runOnce ∈ jAll := jgd (jM2 (List.mem_of_getElem? (i := 195) rfl)) rfl
theorem kco_X3_runOnce : Cond.code yX3_runOnce cX3_runOnce 4 (some .int) ∈ jAll := jgd (jM2 (List.mem_of_getElem? (i := 196) rfl)) rfl
theorem kml_X3_33 : Cond.methodLink RX3 33 yX3_nextToTry ∈ jAll := jgd (jM2 (List.mem_of_getElem? (i := 197) rfl)) rfl
theorem kim_X3_nextToTry : Cond.instanceMethod yX3_nextToTry ∈ jAll := jgd (jM2 (List.mem_of_getElem? (i := 199) rfl)) rfl
theorem kco_X3_nextToTry : Cond.code yX3_nextToTry cX3_nextToTry 3 (some .int) ∈ jAll := jgd (jM2 (List.mem_of_getElem? (i := 200) rfl)) rfl
theorem kml_X3_41 : Cond.methodLink RX3 41 yX4_isWaiting ∈ jAll := jgd (jM2 (List.mem_of_getElem? (i := 201) rfl)) rfl
theorem kml_X3_48 : Cond.methodLink RX3 48 yX3_isServedBefore ∈ jAll := jgd (jM2 (List.mem_of_getElem? (i := 202) rfl)) rfl
theorem kim_X3_isServedBefore : Cond.instanceMethod yX3_isServedBefore ∈ jAll := jgd (jM2 (List.mem_of_getElem? (i := 204) rfl)) rfl
theorem kco_X3_isServedBefore : Cond.code yX3_isServedBefore cX3_isServedBefore 5 (some .boolean) ∈ jAll := jgd (jM2 (List.mem_of_getElem? (i := 205) rfl)) rfl
theorem kml_X3_37 : Cond.methodLink RX3 37 yX3_tryToPlace ∈ jAll := jgd (jM2 (List.mem_of_getElem? (i := 206) rfl)) rfl
theorem kim_X3_tryToPlace : Cond.instanceMethod yX3_tryToPlace ∈ jAll := jgd (jM2 (List.mem_of_getElem? (i := 207) rfl)) rfl
theorem kse_X3_tryToPlace : Cond.selects RX3 yX3_tryToPlace yX3_tryToPlace ∈ jAll := jgd (jM2 (List.mem_of_getElem? (i := 208) rfl)) rfl
theorem kco_X3_tryToPlace : Cond.code yX3_tryToPlace cX3_tryToPlace 3 (some .boolean) ∈ jAll := jgd (jM2 (List.mem_of_getElem? (i := 209) rfl)) rfl
theorem kml_X3_58 : Cond.methodLink RX3 58 yX4_groupHasRoom ∈ jAll := jgd (jM2 (List.mem_of_getElem? (i := 210) rfl)) rfl
theorem kim_X4_groupHasRoom : Cond.instanceMethod yX4_groupHasRoom ∈ jAll := jgd (jM2 (List.mem_of_getElem? (i := 211) rfl)) rfl
theorem kse_X4_groupHasRoom : Cond.selects RX4 yX4_groupHasRoom yX4_groupHasRoom ∈ jAll := jgd (jM2 (List.mem_of_getElem? (i := 212) rfl)) rfl
theorem kco_X4_groupHasRoom : Cond.code yX4_groupHasRoom cX4_groupHasRoom 2 (some .boolean) ∈ jAll := jgd (jM2 (List.mem_of_getElem? (i := 213) rfl)) rfl
theorem kml_X3_61 : Cond.methodLink RX3 61 yX2_search ∈ jAll := jgd (jM2 (List.mem_of_getElem? (i := 214) rfl)) rfl
theorem kim_X2_search : Cond.instanceMethod yX2_search ∈ jAll := jgd (jM2 (List.mem_of_getElem? (i := 215) rfl)) rfl
theorem kse_X2_search : Cond.selects RX2 yX2_search yX2_search ∈ jAll := jgd (jM2 (List.mem_of_getElem? (i := 216) rfl)) rfl
theorem kco_X2_search : Cond.code yX2_search cX2_search 2 (some .int) ∈ jAll := jgd (jM2 (List.mem_of_getElem? (i := 217) rfl)) rfl
theorem kml_X2_28 : Cond.methodLink RX2 28 yX2_collectSuccessors ∈ jAll := jgd (jM2 (List.mem_of_getElem? (i := 218) rfl)) rfl
theorem kim_X2_collectSuccessors : Cond.instanceMethod yX2_collectSuccessors ∈ jAll := jgd (jM2 (List.mem_of_getElem? (i := 220) rfl)) rfl
theorem kco_X2_collectSuccessors : Cond.code yX2_collectSuccessors cX2_collectSuccessors 2 none ∈ jAll := jgd (jM2 (List.mem_of_getElem? (i := 221) rfl)) rfl
theorem kml_X2_57 : Cond.methodLink RX2 57 yX4_canBeMoved ∈ jAll := jgd (jM2 (List.mem_of_getElem? (i := 222) rfl)) rfl
theorem kim_X4_canBeMoved : Cond.instanceMethod yX4_canBeMoved ∈ jAll := jgd (jM2 (List.mem_of_getElem? (i := 223) rfl)) rfl
theorem kse_X4_canBeMoved : Cond.selects RX4 yX4_canBeMoved yX4_canBeMoved ∈ jAll := jgd (jM2 (List.mem_of_getElem? (i := 224) rfl)) rfl
theorem kco_X4_canBeMoved : Cond.code yX4_canBeMoved cX4_canBeMoved 2 (some .boolean) ∈ jAll := jgd (jM2 (List.mem_of_getElem? (i := 225) rfl)) rfl
theorem kml_X2_31 : Cond.methodLink RX2 31 yX2_buildLayers ∈ jAll := jgd (jM2 (List.mem_of_getElem? (i := 226) rfl)) rfl
theorem kim_X2_buildLayers : Cond.instanceMethod yX2_buildLayers ∈ jAll := jgd (jM2 (List.mem_of_getElem? (i := 228) rfl)) rfl
theorem kco_X2_buildLayers : Cond.code yX2_buildLayers cX2_buildLayers 3 none ∈ jAll := jgd (jM2 (List.mem_of_getElem? (i := 229) rfl)) rfl
theorem kml_X2_63 : Cond.methodLink RX2 63 yX4_resourceHasRoom ∈ jAll := jgd (jM2 (List.mem_of_getElem? (i := 230) rfl)) rfl
theorem kim_X4_resourceHasRoom : Cond.instanceMethod yX4_resourceHasRoom ∈ jAll := jgd (jM2 (List.mem_of_getElem? (i := 231) rfl)) rfl
theorem kse_X4_resourceHasRoom : Cond.selects RX4 yX4_resourceHasRoom yX4_resourceHasRoom ∈ jAll := jgd (jM2 (List.mem_of_getElem? (i := 232) rfl)) rfl
theorem kco_X4_resourceHasRoom : Cond.code yX4_resourceHasRoom cX4_resourceHasRoom 2 (some .boolean) ∈ jAll := jgd (jM2 (List.mem_of_getElem? (i := 233) rfl)) rfl
theorem kml_X2_66 : Cond.methodLink RX2 66 yX2_leadingTo ∈ jAll := jgd (jM2 (List.mem_of_getElem? (i := 234) rfl)) rfl
theorem kim_X2_leadingTo : Cond.instanceMethod yX2_leadingTo ∈ jAll := jgd (jM2 (List.mem_of_getElem? (i := 236) rfl)) rfl
theorem kco_X2_leadingTo : Cond.code yX2_leadingTo cX2_leadingTo 4 (some .int) ∈ jAll := jgd (jM2 (List.mem_of_getElem? (i := 237) rfl)) rfl
theorem kml_X2_39 : Cond.methodLink RX2 39 yX2_shortestFrom ∈ jAll := jgd (jM2 (List.mem_of_getElem? (i := 238) rfl)) rfl
theorem kim_X2_shortestFrom : Cond.instanceMethod yX2_shortestFrom ∈ jAll := jgd (jM3 (List.mem_of_getElem? (i := 0) rfl)) rfl
theorem kco_X2_shortestFrom : Cond.code yX2_shortestFrom cX2_shortestFrom 3 (some .int) ∈ jAll := jgd (jM3 (List.mem_of_getElem? (i := 1) rfl)) rfl
theorem kml_X2_47 : Cond.methodLink RX2 47 yX2_trace ∈ jAll := jgd (jM3 (List.mem_of_getElem? (i := 2) rfl)) rfl
theorem kim_X2_trace : Cond.instanceMethod yX2_trace ∈ jAll := jgd (jM3 (List.mem_of_getElem? (i := 4) rfl)) rfl
theorem kco_X2_trace : Cond.code yX2_trace cX2_trace 6 (some .boolean) ∈ jAll := jgd (jM3 (List.mem_of_getElem? (i := 5) rfl)) rfl
theorem kmn_X2_69 : Cond.methodLinkNest RX2 69 yX5_lowestResource "MatchingService" ∈ jNest := jH (jM3 (List.mem_of_getElem? (i := 6) rfl)) rfl
theorem kst_X5_lowestResource : Cond.static yX5_lowestResource ∈ jAll := jgd (jM3 (List.mem_of_getElem? (i := 7) rfl)) rfl
theorem kco_X5_lowestResource : Cond.code yX5_lowestResource cX5_lowestResource 2 (some .int) ∈ jAll := jgd (jM3 (List.mem_of_getElem? (i := 8) rfl)) rfl
theorem kml_X5_226 : Cond.methodLink RX5 226 yX5_hasBit ∈ jAll := jgd (jM3 (List.mem_of_getElem? (i := 9) rfl)) rfl
theorem kml_X2_72 : Cond.methodLink RX2 72 yX2_firstMovable ∈ jAll := jgd (jM3 (List.mem_of_getElem? (i := 10) rfl)) rfl
theorem kim_X2_firstMovable : Cond.instanceMethod yX2_firstMovable ∈ jAll := jgd (jM3 (List.mem_of_getElem? (i := 12) rfl)) rfl
theorem kco_X2_firstMovable : Cond.code yX2_firstMovable cX2_firstMovable 4 (some .int) ∈ jAll := jgd (jM3 (List.mem_of_getElem? (i := 13) rfl)) rfl
theorem kml_X3_70 : Cond.methodLink RX3 70 yX3_placeAlongPath ∈ jAll := jgd (jM3 (List.mem_of_getElem? (i := 14) rfl)) rfl
theorem kim_X3_placeAlongPath : Cond.instanceMethod yX3_placeAlongPath ∈ jAll := jgd (jM3 (List.mem_of_getElem? (i := 16) rfl)) rfl
theorem kco_X3_placeAlongPath : Cond.code yX3_placeAlongPath cX3_placeAlongPath 5 none ∈ jAll := jgd (jM3 (List.mem_of_getElem? (i := 17) rfl)) rfl
theorem kml_X3_77 : Cond.methodLink RX3 77 yX4_assign ∈ jAll := jgd (jM3 (List.mem_of_getElem? (i := 18) rfl)) rfl
theorem kim_X4_assign : Cond.instanceMethod yX4_assign ∈ jAll := jgd (jM3 (List.mem_of_getElem? (i := 19) rfl)) rfl
theorem kse_X4_assign : Cond.selects RX4 yX4_assign yX4_assign ∈ jAll := jgd (jM3 (List.mem_of_getElem? (i := 20) rfl)) rfl
theorem kco_X4_assign : Cond.code yX4_assign cX4_assign 3 none ∈ jAll := jgd (jM3 (List.mem_of_getElem? (i := 21) rfl)) rfl
theorem kml_X3_87 : Cond.methodLink RX3 87 yX4_move ∈ jAll := jgd (jM3 (List.mem_of_getElem? (i := 22) rfl)) rfl
theorem kim_X4_move : Cond.instanceMethod yX4_move ∈ jAll := jgd (jM3 (List.mem_of_getElem? (i := 23) rfl)) rfl
theorem kse_X4_move : Cond.selects RX4 yX4_move yX4_move ∈ jAll := jgd (jM3 (List.mem_of_getElem? (i := 24) rfl)) rfl
theorem kco_X4_move : Cond.code yX4_move cX4_move 3 none ∈ jAll := jgd (jM3 (List.mem_of_getElem? (i := 25) rfl)) rfl
theorem kml_X4_59 : Cond.methodLink RX4 59 yX4_putBack ∈ jAll := jgd (jM3 (List.mem_of_getElem? (i := 26) rfl)) rfl
theorem kim_X4_putBack : Cond.instanceMethod yX4_putBack ∈ jAll := jgd (jM3 (List.mem_of_getElem? (i := 27) rfl)) rfl
theorem kse_X4_putBack : Cond.selects RX4 yX4_putBack yX4_putBack ∈ jAll := jgd (jM3 (List.mem_of_getElem? (i := 28) rfl)) rfl
theorem kco_X4_putBack : Cond.code yX4_putBack cX4_putBack 2 none ∈ jAll := jgd (jM3 (List.mem_of_getElem? (i := 29) rfl)) rfl
theorem kml_X4_67 : Cond.methodLink RX4 67 yX4_assign ∈ jAll := jgd (jM3 (List.mem_of_getElem? (i := 30) rfl)) rfl
theorem kml_X3_90 : Cond.methodLink RX3 90 yX1_add ∈ jAll := jgd (jM3 (List.mem_of_getElem? (i := 31) rfl)) rfl
theorem kim_X1_add : Cond.instanceMethod yX1_add ∈ jAll := jgd (jM3 (List.mem_of_getElem? (i := 32) rfl)) rfl
theorem kse_X1_add : Cond.selects RX1 yX1_add yX1_add ∈ jAll := jgd (jM3 (List.mem_of_getElem? (i := 33) rfl)) rfl
theorem kco_X1_add : Cond.code yX1_add cX1_add 3 none ∈ jAll := jgd (jM3 (List.mem_of_getElem? (i := 34) rfl)) rfl
theorem kml_L_83 : Cond.methodLink RL 83 yL_setCapacity ∈ jAll := jgd (jM3 (List.mem_of_getElem? (i := 35) rfl)) rfl
theorem kst_L_setCapacity : Cond.static yL_setCapacity ∈ jAll := jgd (jM3 (List.mem_of_getElem? (i := 36) rfl)) rfl
theorem kco_L_setCapacity : Cond.codeWith yL_setCapacity cL_setCapacity 5 (some .int) [(0, 10, 13, 21), (0, 10, 17, 13)] ∈ jAll := jgd (jM3 (List.mem_of_getElem? (i := 37) rfl)) rfl
theorem kcl_L_21 : Cond.classLink RL 21 "java/lang/IndexOutOfBoundsException" ∈ jAll := jgd (jM3 (List.mem_of_getElem? (i := 38) rfl)) rfl
theorem kml_L_17 : Cond.methodLink RL 17 yX5_setCapacity ∈ jAll := jgd (jM3 (List.mem_of_getElem? (i := 39) rfl)) rfl
theorem kim_X5_setCapacity : Cond.instanceMethod yX5_setCapacity ∈ jAll := jgd (jM3 (List.mem_of_getElem? (i := 40) rfl)) rfl
theorem kse_X5_setCapacity : Cond.selects RX5 yX5_setCapacity yX5_setCapacity ∈ jAll := jgd (jM3 (List.mem_of_getElem? (i := 41) rfl)) rfl
theorem kco_X5_setCapacity : Cond.code yX5_setCapacity cX5_setCapacity 4 (some .int) ∈ jAll := jgd (jM3 (List.mem_of_getElem? (i := 42) rfl)) rfl
theorem kml_X5_79 : Cond.methodLink RX5 79 yX5_requireResource ∈ jAll := jgd (jM3 (List.mem_of_getElem? (i := 43) rfl)) rfl
theorem kim_X5_requireResource : Cond.instanceMethod yX5_requireResource ∈ jAll := jgd (jM3 (List.mem_of_getElem? (i := 45) rfl)) rfl
theorem kco_X5_requireResource : Cond.code yX5_requireResource cX5_requireResource 2 none ∈ jAll := jgd (jM3 (List.mem_of_getElem? (i := 46) rfl)) rfl
theorem kcl_X5_208 : Cond.classLink RX5 208 "java/lang/IndexOutOfBoundsException" ∈ jAll := jgd (jM3 (List.mem_of_getElem? (i := 47) rfl)) rfl
theorem kin__java_lang_IndexOutOfBoundsException_ : Cond.instantiable "java/lang/IndexOutOfBoundsException" 6 ∈ jAll := jgd (jM3 (List.mem_of_getElem? (i := 48) rfl)) rfl
theorem kml_X5_212 : Cond.methodLink RX5 212 ⟨"java/lang/IndexOutOfBoundsException", "<init>", "(Ljava/lang/String;)V"⟩ ∈ jAll := jgd (jM3 (List.mem_of_getElem? (i := 57) rfl)) rfl
theorem kim_IndexOutOfBoundsException__init__Ljava_lang_String__V : Cond.instanceMethod ⟨"java/lang/IndexOutOfBoundsException", "<init>", "(Ljava/lang/String;)V"⟩ ∈ jAll := jgd (jM3 (List.mem_of_getElem? (i := 58) rfl)) rfl
theorem kml__java_lang_IndexOutOfBoundsException__7 : Cond.methodLink "java/lang/IndexOutOfBoundsException" 7 ⟨"java/lang/RuntimeException", "<init>", "(Ljava/lang/String;)V"⟩ ∈ jAll := jgd (jM3 (List.mem_of_getElem? (i := 60) rfl)) rfl
theorem kml_X5_87 : Cond.methodLink RX5 87 yX4_putBackBeyondCapacity ∈ jAll := jgd (jM3 (List.mem_of_getElem? (i := 63) rfl)) rfl
theorem kim_X4_putBackBeyondCapacity : Cond.instanceMethod yX4_putBackBeyondCapacity ∈ jAll := jgd (jM3 (List.mem_of_getElem? (i := 64) rfl)) rfl
theorem kse_X4_putBackBeyondCapacity : Cond.selects RX4 yX4_putBackBeyondCapacity yX4_putBackBeyondCapacity ∈ jAll := jgd (jM3 (List.mem_of_getElem? (i := 65) rfl)) rfl
theorem kco_X4_putBackBeyondCapacity : Cond.code yX4_putBackBeyondCapacity cX4_putBackBeyondCapacity 4 (some .int) ∈ jAll := jgd (jM3 (List.mem_of_getElem? (i := 66) rfl)) rfl
theorem kml_L_87 : Cond.methodLink RL 87 yL_setGroup ∈ jAll := jgd (jM3 (List.mem_of_getElem? (i := 67) rfl)) rfl
theorem kst_L_setGroup : Cond.static yL_setGroup ∈ jAll := jgd (jM3 (List.mem_of_getElem? (i := 68) rfl)) rfl
theorem kco_L_setGroup : Cond.codeWith yL_setGroup cL_setGroup 6 (some .int) [(0, 12, 15, 21), (0, 12, 19, 13)] ∈ jAll := jgd (jM3 (List.mem_of_getElem? (i := 69) rfl)) rfl
theorem kml_L_23 : Cond.methodLink RL 23 yX5_setGroup ∈ jAll := jgd (jM3 (List.mem_of_getElem? (i := 70) rfl)) rfl
theorem kim_X5_setGroup : Cond.instanceMethod yX5_setGroup ∈ jAll := jgd (jM3 (List.mem_of_getElem? (i := 71) rfl)) rfl
theorem kse_X5_setGroup : Cond.selects RX5 yX5_setGroup yX5_setGroup ∈ jAll := jgd (jM3 (List.mem_of_getElem? (i := 72) rfl)) rfl
theorem kco_X5_setGroup : Cond.code yX5_setGroup cX5_setGroup 5 (some .int) ∈ jAll := jgd (jM3 (List.mem_of_getElem? (i := 73) rfl)) rfl
theorem kml_X5_90 : Cond.methodLink RX5 90 yX5_requireGroup ∈ jAll := jgd (jM3 (List.mem_of_getElem? (i := 74) rfl)) rfl
theorem kim_X5_requireGroup : Cond.instanceMethod yX5_requireGroup ∈ jAll := jgd (jM3 (List.mem_of_getElem? (i := 76) rfl)) rfl
theorem kco_X5_requireGroup : Cond.code yX5_requireGroup cX5_requireGroup 2 none ∈ jAll := jgd (jM3 (List.mem_of_getElem? (i := 77) rfl)) rfl
theorem kml_X5_103 : Cond.methodLink RX5 103 yX4_putBackBeyondQuota ∈ jAll := jgd (jM3 (List.mem_of_getElem? (i := 81) rfl)) rfl
theorem kim_X4_putBackBeyondQuota : Cond.instanceMethod yX4_putBackBeyondQuota ∈ jAll := jgd (jM3 (List.mem_of_getElem? (i := 82) rfl)) rfl
theorem kse_X4_putBackBeyondQuota : Cond.selects RX4 yX4_putBackBeyondQuota yX4_putBackBeyondQuota ∈ jAll := jgd (jM3 (List.mem_of_getElem? (i := 83) rfl)) rfl
theorem kco_X4_putBackBeyondQuota : Cond.code yX4_putBackBeyondQuota cX4_putBackBeyondQuota 4 (some .int) ∈ jAll := jgd (jM3 (List.mem_of_getElem? (i := 84) rfl)) rfl
theorem kml_L_91 : Cond.methodLink RL 91 yL_setLimits ∈ jAll := jgd (jM3 (List.mem_of_getElem? (i := 85) rfl)) rfl
theorem kst_L_setLimits : Cond.static yL_setLimits ∈ jAll := jgd (jM3 (List.mem_of_getElem? (i := 86) rfl)) rfl
theorem kco_L_setLimits : Cond.codeWith yL_setLimits cL_setLimits 5 (some .int) [(0, 10, 13, 13)] ∈ jAll := jgd (jM3 (List.mem_of_getElem? (i := 87) rfl)) rfl
theorem kml_L_27 : Cond.methodLink RL 27 yX5_setLimits ∈ jAll := jgd (jM3 (List.mem_of_getElem? (i := 88) rfl)) rfl
theorem kim_X5_setLimits : Cond.instanceMethod yX5_setLimits ∈ jAll := jgd (jM3 (List.mem_of_getElem? (i := 89) rfl)) rfl
theorem kse_X5_setLimits : Cond.selects RX5 yX5_setLimits yX5_setLimits ∈ jAll := jgd (jM3 (List.mem_of_getElem? (i := 90) rfl)) rfl
theorem kco_X5_setLimits : Cond.code yX5_setLimits cX5_setLimits 3 (some .int) ∈ jAll := jgd (jM3 (List.mem_of_getElem? (i := 91) rfl)) rfl
theorem kml_L_94 : Cond.methodLink RL 94 yL_arrive ∈ jAll := jgd (jM3 (List.mem_of_getElem? (i := 94) rfl)) rfl
theorem kst_L_arrive : Cond.static yL_arrive ∈ jAll := jgd (jM3 (List.mem_of_getElem? (i := 95) rfl)) rfl
theorem kco_L_arrive : Cond.codeWith yL_arrive cL_arrive 5 (some .int) [(0, 10, 13, 21), (0, 10, 17, 13), (0, 10, 21, 15)] ∈ jAll := jgd (jM3 (List.mem_of_getElem? (i := 96) rfl)) rfl
theorem kml_L_30 : Cond.methodLink RL 30 yX5_arrive ∈ jAll := jgd (jM3 (List.mem_of_getElem? (i := 97) rfl)) rfl
theorem kim_X5_arrive : Cond.instanceMethod yX5_arrive ∈ jAll := jgd (jM3 (List.mem_of_getElem? (i := 98) rfl)) rfl
theorem kse_X5_arrive : Cond.selects RX5 yX5_arrive yX5_arrive ∈ jAll := jgd (jM3 (List.mem_of_getElem? (i := 99) rfl)) rfl
theorem kco_X5_arrive : Cond.code yX5_arrive cX5_arrive 4 (some .int) ∈ jAll := jgd (jM3 (List.mem_of_getElem? (i := 100) rfl)) rfl
theorem kml_X5_116 : Cond.methodLink RX5 116 yX5_requireMask ∈ jAll := jgd (jM3 (List.mem_of_getElem? (i := 101) rfl)) rfl
theorem kim_X5_requireMask : Cond.instanceMethod yX5_requireMask ∈ jAll := jgd (jM3 (List.mem_of_getElem? (i := 103) rfl)) rfl
theorem kco_X5_requireMask : Cond.code yX5_requireMask cX5_requireMask 2 none ∈ jAll := jgd (jM3 (List.mem_of_getElem? (i := 104) rfl)) rfl
theorem kml_X5_219 : Cond.methodLink RX5 219 yX4_maskOfAll ∈ jAll := jgd (jM3 (List.mem_of_getElem? (i := 105) rfl)) rfl
theorem kml_X5_124 : Cond.methodLink RX5 124 yX4_admit ∈ jAll := jgd (jM3 (List.mem_of_getElem? (i := 108) rfl)) rfl
theorem kim_X4_admit : Cond.instanceMethod yX4_admit ∈ jAll := jgd (jM3 (List.mem_of_getElem? (i := 109) rfl)) rfl
theorem kse_X4_admit : Cond.selects RX4 yX4_admit yX4_admit ∈ jAll := jgd (jM3 (List.mem_of_getElem? (i := 110) rfl)) rfl
theorem kco_X4_admit : Cond.code yX4_admit cX4_admit 4 (some .int) ∈ jAll := jgd (jM3 (List.mem_of_getElem? (i := 111) rfl)) rfl
theorem kml_X5_128 : Cond.methodLink RX5 128 yX3_tryToPlace ∈ jAll := jgd (jM3 (List.mem_of_getElem? (i := 112) rfl)) rfl
theorem kml_L_97 : Cond.methodLink RL 97 yL_depart ∈ jAll := jgd (jM3 (List.mem_of_getElem? (i := 113) rfl)) rfl
theorem kst_L_depart : Cond.static yL_depart ∈ jAll := jgd (jM3 (List.mem_of_getElem? (i := 114) rfl)) rfl
theorem kco_L_depart : Cond.codeWith yL_depart cL_depart 4 (some .int) [(0, 9, 12, 21), (0, 9, 15, 36)] ∈ jAll := jgd (jM3 (List.mem_of_getElem? (i := 115) rfl)) rfl
theorem kcl_L_36 : Cond.classLink RL 36 "java/util/NoSuchElementException" ∈ jAll := jgd (jM3 (List.mem_of_getElem? (i := 116) rfl)) rfl
theorem kml_L_33 : Cond.methodLink RL 33 yX5_depart ∈ jAll := jgd (jM3 (List.mem_of_getElem? (i := 117) rfl)) rfl
theorem kim_X5_depart : Cond.instanceMethod yX5_depart ∈ jAll := jgd (jM3 (List.mem_of_getElem? (i := 118) rfl)) rfl
theorem kse_X5_depart : Cond.selects RX5 yX5_depart yX5_depart ∈ jAll := jgd (jM3 (List.mem_of_getElem? (i := 119) rfl)) rfl
theorem kco_X5_depart : Cond.code yX5_depart cX5_depart 2 (some .int) ∈ jAll := jgd (jM3 (List.mem_of_getElem? (i := 120) rfl)) rfl
theorem kml_X5_132 : Cond.methodLink RX5 132 yX5_requirePresent ∈ jAll := jgd (jM3 (List.mem_of_getElem? (i := 121) rfl)) rfl
theorem kim_X5_requirePresent : Cond.instanceMethod yX5_requirePresent ∈ jAll := jgd (jM3 (List.mem_of_getElem? (i := 123) rfl)) rfl
theorem kco_X5_requirePresent : Cond.code yX5_requirePresent cX5_requirePresent 2 none ∈ jAll := jgd (jM3 (List.mem_of_getElem? (i := 124) rfl)) rfl
theorem kml_X5_157 : Cond.methodLink RX5 157 yX5_requireRequest ∈ jAll := jgd (jM3 (List.mem_of_getElem? (i := 125) rfl)) rfl
theorem kim_X5_requireRequest : Cond.instanceMethod yX5_requireRequest ∈ jAll := jgd (jM3 (List.mem_of_getElem? (i := 127) rfl)) rfl
theorem kco_X5_requireRequest : Cond.code yX5_requireRequest cX5_requireRequest 2 none ∈ jAll := jgd (jM3 (List.mem_of_getElem? (i := 128) rfl)) rfl
theorem kml_X5_197 : Cond.methodLink RX5 197 yX4_isDeparted ∈ jAll := jgd (jM3 (List.mem_of_getElem? (i := 130) rfl)) rfl
theorem kcl_X5_163 : Cond.classLink RX5 163 "java/util/NoSuchElementException" ∈ jAll := jgd (jM3 (List.mem_of_getElem? (i := 131) rfl)) rfl
theorem kin__java_util_NoSuchElementException_ : Cond.instantiable "java/util/NoSuchElementException" 6 ∈ jAll := jgd (jM3 (List.mem_of_getElem? (i := 132) rfl)) rfl
theorem kml_X5_167 : Cond.methodLink RX5 167 ⟨"java/util/NoSuchElementException", "<init>", "(Ljava/lang/String;)V"⟩ ∈ jAll := jgd (jM3 (List.mem_of_getElem? (i := 141) rfl)) rfl
theorem kim_NoSuchElementException__init__Ljava_lang_String__V : Cond.instanceMethod ⟨"java/util/NoSuchElementException", "<init>", "(Ljava/lang/String;)V"⟩ ∈ jAll := jgd (jM3 (List.mem_of_getElem? (i := 142) rfl)) rfl
theorem kml__java_util_NoSuchElementException__13 : Cond.methodLink "java/util/NoSuchElementException" 13 ⟨"java/lang/RuntimeException", "<init>", "(Ljava/lang/String;)V"⟩ ∈ jAll := jgd (jM3 (List.mem_of_getElem? (i := 144) rfl)) rfl
theorem kml_X5_135 : Cond.methodLink RX5 135 yX4_dismiss ∈ jAll := jgd (jM3 (List.mem_of_getElem? (i := 147) rfl)) rfl
theorem kim_X4_dismiss : Cond.instanceMethod yX4_dismiss ∈ jAll := jgd (jM3 (List.mem_of_getElem? (i := 148) rfl)) rfl
theorem kse_X4_dismiss : Cond.selects RX4 yX4_dismiss yX4_dismiss ∈ jAll := jgd (jM3 (List.mem_of_getElem? (i := 149) rfl)) rfl
theorem kco_X4_dismiss : Cond.code yX4_dismiss cX4_dismiss 2 none ∈ jAll := jgd (jM3 (List.mem_of_getElem? (i := 150) rfl)) rfl
theorem kml_L_100 : Cond.methodLink RL 100 yL_setAccepts ∈ jAll := jgd (jM3 (List.mem_of_getElem? (i := 151) rfl)) rfl
theorem kst_L_setAccepts : Cond.static yL_setAccepts ∈ jAll := jgd (jM3 (List.mem_of_getElem? (i := 152) rfl)) rfl
theorem kco_L_setAccepts : Cond.codeWith yL_setAccepts cL_setAccepts 5 (some .int) [(0, 17, 20, 21), (0, 17, 24, 36), (0, 17, 28, 13)] ∈ jAll := jgd (jM3 (List.mem_of_getElem? (i := 153) rfl)) rfl
theorem kml_L_38 : Cond.methodLink RL 38 yX5_setAccepts ∈ jAll := jgd (jM3 (List.mem_of_getElem? (i := 154) rfl)) rfl
theorem kim_X5_setAccepts : Cond.instanceMethod yX5_setAccepts ∈ jAll := jgd (jM3 (List.mem_of_getElem? (i := 155) rfl)) rfl
theorem kse_X5_setAccepts : Cond.selects RX5 yX5_setAccepts yX5_setAccepts ∈ jAll := jgd (jM3 (List.mem_of_getElem? (i := 156) rfl)) rfl
theorem kco_X5_setAccepts : Cond.code yX5_setAccepts cX5_setAccepts 3 (some .boolean) ∈ jAll := jgd (jM3 (List.mem_of_getElem? (i := 157) rfl)) rfl
theorem kml_X5_138 : Cond.methodLink RX5 138 yX4_accept ∈ jAll := jgd (jM3 (List.mem_of_getElem? (i := 158) rfl)) rfl
theorem kim_X4_accept : Cond.instanceMethod yX4_accept ∈ jAll := jgd (jM3 (List.mem_of_getElem? (i := 159) rfl)) rfl
theorem kse_X4_accept : Cond.selects RX4 yX4_accept yX4_accept ∈ jAll := jgd (jM3 (List.mem_of_getElem? (i := 160) rfl)) rfl
theorem kco_X4_accept : Cond.code yX4_accept cX4_accept 3 none ∈ jAll := jgd (jM3 (List.mem_of_getElem? (i := 161) rfl)) rfl
theorem kmn_X4_63 : Cond.methodLinkNest RX4 63 yX5_hasBit "MatchingService" ∈ jNest := jH (jM3 (List.mem_of_getElem? (i := 162) rfl)) rfl
theorem kml_L_119 : Cond.methodLink RL 119 yL_assignedOf ∈ jAll := jgd (jM3 (List.mem_of_getElem? (i := 163) rfl)) rfl
theorem kst_L_assignedOf : Cond.static yL_assignedOf ∈ jAll := jgd (jM3 (List.mem_of_getElem? (i := 164) rfl)) rfl
theorem kco_L_assignedOf : Cond.codeWith yL_assignedOf cL_assignedOf 4 (some .int) [(0, 9, 12, 21)] ∈ jAll := jgd (jM3 (List.mem_of_getElem? (i := 165) rfl)) rfl
theorem kml_L_42 : Cond.methodLink RL 42 yX5_assignedOf ∈ jAll := jgd (jM3 (List.mem_of_getElem? (i := 166) rfl)) rfl
theorem kim_X5_assignedOf : Cond.instanceMethod yX5_assignedOf ∈ jAll := jgd (jM3 (List.mem_of_getElem? (i := 167) rfl)) rfl
theorem kse_X5_assignedOf : Cond.selects RX5 yX5_assignedOf yX5_assignedOf ∈ jAll := jgd (jM3 (List.mem_of_getElem? (i := 168) rfl)) rfl
theorem kco_X5_assignedOf : Cond.code yX5_assignedOf cX5_assignedOf 2 (some .int) ∈ jAll := jgd (jM3 (List.mem_of_getElem? (i := 169) rfl)) rfl
theorem kml_L_122 : Cond.methodLink RL 122 yL_load ∈ jAll := jgd (jM3 (List.mem_of_getElem? (i := 170) rfl)) rfl
theorem kst_L_load : Cond.static yL_load ∈ jAll := jgd (jM3 (List.mem_of_getElem? (i := 171) rfl)) rfl
theorem kco_L_load : Cond.codeWith yL_load cL_load 4 (some .int) [(0, 9, 12, 21)] ∈ jAll := jgd (jM3 (List.mem_of_getElem? (i := 172) rfl)) rfl
theorem kml_L_45 : Cond.methodLink RL 45 yX5_load ∈ jAll := jgd (jM3 (List.mem_of_getElem? (i := 173) rfl)) rfl
theorem kim_X5_load : Cond.instanceMethod yX5_load ∈ jAll := jgd (jM3 (List.mem_of_getElem? (i := 174) rfl)) rfl
theorem kse_X5_load : Cond.selects RX5 yX5_load yX5_load ∈ jAll := jgd (jM3 (List.mem_of_getElem? (i := 175) rfl)) rfl
theorem kco_X5_load : Cond.code yX5_load cX5_load 2 (some .int) ∈ jAll := jgd (jM3 (List.mem_of_getElem? (i := 176) rfl)) rfl
theorem kml_L_125 : Cond.methodLink RL 125 yL_state ∈ jAll := jgd (jM3 (List.mem_of_getElem? (i := 177) rfl)) rfl
theorem kst_L_state : Cond.static yL_state ∈ jAll := jgd (jM3 (List.mem_of_getElem? (i := 178) rfl)) rfl
theorem kco_L_state : Cond.codeWith yL_state cL_state 4 (some .int) [(0, 9, 12, 21)] ∈ jAll := jgd (jM3 (List.mem_of_getElem? (i := 179) rfl)) rfl
theorem kml_L_48 : Cond.methodLink RL 48 yX5_state ∈ jAll := jgd (jM3 (List.mem_of_getElem? (i := 180) rfl)) rfl
theorem kim_X5_state : Cond.instanceMethod yX5_state ∈ jAll := jgd (jM3 (List.mem_of_getElem? (i := 181) rfl)) rfl
theorem kse_X5_state : Cond.selects RX5 yX5_state yX5_state ∈ jAll := jgd (jM3 (List.mem_of_getElem? (i := 182) rfl)) rfl
theorem kco_X5_state : Cond.code yX5_state cX5_state 2 (some .int) ∈ jAll := jgd (jM3 (List.mem_of_getElem? (i := 183) rfl)) rfl
theorem kml_L_128 : Cond.methodLink RL 128 yL_resourceOf ∈ jAll := jgd (jM3 (List.mem_of_getElem? (i := 184) rfl)) rfl
theorem kst_L_resourceOf : Cond.static yL_resourceOf ∈ jAll := jgd (jM3 (List.mem_of_getElem? (i := 185) rfl)) rfl
theorem kco_L_resourceOf : Cond.codeWith yL_resourceOf cL_resourceOf 4 (some .int) [(0, 9, 12, 21), (0, 9, 15, 36)] ∈ jAll := jgd (jM3 (List.mem_of_getElem? (i := 186) rfl)) rfl
theorem kml_L_51 : Cond.methodLink RL 51 yX5_resourceOf ∈ jAll := jgd (jM3 (List.mem_of_getElem? (i := 187) rfl)) rfl
theorem kim_X5_resourceOf : Cond.instanceMethod yX5_resourceOf ∈ jAll := jgd (jM3 (List.mem_of_getElem? (i := 188) rfl)) rfl
theorem kse_X5_resourceOf : Cond.selects RX5 yX5_resourceOf yX5_resourceOf ∈ jAll := jgd (jM3 (List.mem_of_getElem? (i := 189) rfl)) rfl
theorem kco_X5_resourceOf : Cond.code yX5_resourceOf cX5_resourceOf 2 (some .int) ∈ jAll := jgd (jM3 (List.mem_of_getElem? (i := 190) rfl)) rfl
theorem kml_L_131 : Cond.methodLink RL 131 yL_movesOf ∈ jAll := jgd (jM3 (List.mem_of_getElem? (i := 192) rfl)) rfl
theorem kst_L_movesOf : Cond.static yL_movesOf ∈ jAll := jgd (jM3 (List.mem_of_getElem? (i := 193) rfl)) rfl
theorem kco_L_movesOf : Cond.codeWith yL_movesOf cL_movesOf 4 (some .int) [(0, 9, 12, 21)] ∈ jAll := jgd (jM3 (List.mem_of_getElem? (i := 194) rfl)) rfl
theorem kml_L_54 : Cond.methodLink RL 54 yX5_movesOf ∈ jAll := jgd (jM3 (List.mem_of_getElem? (i := 195) rfl)) rfl
theorem kim_X5_movesOf : Cond.instanceMethod yX5_movesOf ∈ jAll := jgd (jM3 (List.mem_of_getElem? (i := 196) rfl)) rfl
theorem kse_X5_movesOf : Cond.selects RX5 yX5_movesOf yX5_movesOf ∈ jAll := jgd (jM3 (List.mem_of_getElem? (i := 197) rfl)) rfl
theorem kco_X5_movesOf : Cond.code yX5_movesOf cX5_movesOf 2 (some .int) ∈ jAll := jgd (jM3 (List.mem_of_getElem? (i := 198) rfl)) rfl
theorem kml_L_138 : Cond.methodLink RL 138 yL_movedRequest ∈ jAll := jgd (jM3 (List.mem_of_getElem? (i := 199) rfl)) rfl
theorem kst_L_movedRequest : Cond.static yL_movedRequest ∈ jAll := jgd (jM3 (List.mem_of_getElem? (i := 200) rfl)) rfl
theorem kco_L_movedRequest : Cond.codeWith yL_movedRequest cL_movedRequest 4 (some .int) [(0, 9, 12, 21)] ∈ jAll := jgd (jM3 (List.mem_of_getElem? (i := 201) rfl)) rfl
theorem kml_L_57 : Cond.methodLink RL 57 yX5_movedRequest ∈ jAll := jgd (jM3 (List.mem_of_getElem? (i := 202) rfl)) rfl
theorem kim_X5_movedRequest : Cond.instanceMethod yX5_movedRequest ∈ jAll := jgd (jM3 (List.mem_of_getElem? (i := 203) rfl)) rfl
theorem kse_X5_movedRequest : Cond.selects RX5 yX5_movedRequest yX5_movedRequest ∈ jAll := jgd (jM3 (List.mem_of_getElem? (i := 204) rfl)) rfl
theorem kco_X5_movedRequest : Cond.code yX5_movedRequest cX5_movedRequest 2 (some .int) ∈ jAll := jgd (jM3 (List.mem_of_getElem? (i := 205) rfl)) rfl
theorem kml_X5_177 : Cond.methodLink RX5 177 yX5_requireLogged ∈ jAll := jgd (jM3 (List.mem_of_getElem? (i := 206) rfl)) rfl
theorem kim_X5_requireLogged : Cond.instanceMethod yX5_requireLogged ∈ jAll := jgd (jM3 (List.mem_of_getElem? (i := 208) rfl)) rfl
theorem kco_X5_requireLogged : Cond.code yX5_requireLogged cX5_requireLogged 2 none ∈ jAll := jgd (jM3 (List.mem_of_getElem? (i := 209) rfl)) rfl
theorem kml_L_141 : Cond.methodLink RL 141 yL_movedTo ∈ jAll := jgd (jM3 (List.mem_of_getElem? (i := 211) rfl)) rfl
theorem kst_L_movedTo : Cond.static yL_movedTo ∈ jAll := jgd (jM3 (List.mem_of_getElem? (i := 212) rfl)) rfl
theorem kco_L_movedTo : Cond.codeWith yL_movedTo cL_movedTo 4 (some .int) [(0, 9, 12, 21)] ∈ jAll := jgd (jM3 (List.mem_of_getElem? (i := 213) rfl)) rfl
theorem kml_L_60 : Cond.methodLink RL 60 yX5_movedTo ∈ jAll := jgd (jM3 (List.mem_of_getElem? (i := 214) rfl)) rfl
theorem kim_X5_movedTo : Cond.instanceMethod yX5_movedTo ∈ jAll := jgd (jM3 (List.mem_of_getElem? (i := 215) rfl)) rfl
theorem kse_X5_movedTo : Cond.selects RX5 yX5_movedTo yX5_movedTo ∈ jAll := jgd (jM3 (List.mem_of_getElem? (i := 216) rfl)) rfl
theorem kco_X5_movedTo : Cond.code yX5_movedTo cX5_movedTo 2 (some .int) ∈ jAll := jgd (jM3 (List.mem_of_getElem? (i := 217) rfl)) rfl
theorem kml_L_144 : Cond.methodLink RL 144 yL_movesNeeded ∈ jAll := jgd (jM3 (List.mem_of_getElem? (i := 218) rfl)) rfl
theorem kst_L_movesNeeded : Cond.static yL_movesNeeded ∈ jAll := jgd (jM3 (List.mem_of_getElem? (i := 219) rfl)) rfl
theorem kco_L_movesNeeded : Cond.codeWith yL_movesNeeded cL_movesNeeded 4 (some .int) [(0, 9, 12, 21), (0, 9, 15, 36)] ∈ jAll := jgd (jM3 (List.mem_of_getElem? (i := 220) rfl)) rfl
theorem kml_L_63 : Cond.methodLink RL 63 yX5_movesNeeded ∈ jAll := jgd (jM3 (List.mem_of_getElem? (i := 221) rfl)) rfl
theorem kim_X5_movesNeeded : Cond.instanceMethod yX5_movesNeeded ∈ jAll := jgd (jM3 (List.mem_of_getElem? (i := 222) rfl)) rfl
theorem kse_X5_movesNeeded : Cond.selects RX5 yX5_movesNeeded yX5_movesNeeded ∈ jAll := jgd (jM3 (List.mem_of_getElem? (i := 223) rfl)) rfl
theorem kco_X5_movesNeeded : Cond.code yX5_movesNeeded cX5_movesNeeded 2 (some .int) ∈ jAll := jgd (jM3 (List.mem_of_getElem? (i := 224) rfl)) rfl
theorem kml_X5_186 : Cond.methodLink RX5 186 yX4_isWaiting ∈ jAll := jgd (jM3 (List.mem_of_getElem? (i := 225) rfl)) rfl
theorem kml_X5_191 : Cond.methodLink RX5 191 yX2_search ∈ jAll := jgd (jM3 (List.mem_of_getElem? (i := 227) rfl)) rfl
theorem kml_L_151 : Cond.methodLink RL 151 yL_gainBy ∈ jAll := jgd (jM3 (List.mem_of_getElem? (i := 228) rfl)) rfl
theorem kst_L_gainBy : Cond.static yL_gainBy ∈ jAll := jgd (jM3 (List.mem_of_getElem? (i := 229) rfl)) rfl
theorem kco_L_gainBy : Cond.codeWith yL_gainBy cL_gainBy 4 (some .int) [(0, 9, 12, 21)] ∈ jAll := jgd (jM3 (List.mem_of_getElem? (i := 230) rfl)) rfl
theorem kml_L_66 : Cond.methodLink RL 66 yX5_gainBy ∈ jAll := jgd (jM3 (List.mem_of_getElem? (i := 231) rfl)) rfl
theorem kim_X5_gainBy : Cond.instanceMethod yX5_gainBy ∈ jAll := jgd (jM3 (List.mem_of_getElem? (i := 232) rfl)) rfl
theorem kse_X5_gainBy : Cond.selects RX5 yX5_gainBy yX5_gainBy ∈ jAll := jgd (jM3 (List.mem_of_getElem? (i := 233) rfl)) rfl
theorem kco_X5_gainBy : Cond.code yX5_gainBy cX5_gainBy 2 (some .int) ∈ jAll := jgd (jM3 (List.mem_of_getElem? (i := 234) rfl)) rfl
theorem kcl_L_70 : Cond.classLink RL 70 RX6 ∈ jAll := jgd (jM3 (List.mem_of_getElem? (i := 235) rfl)) rfl
theorem kin_X6 : Cond.instantiable RX6 20 ∈ jAll := jgd (jM3 (List.mem_of_getElem? (i := 236) rfl)) rfl
theorem kml_L_72 : Cond.methodLink RL 72 yX6_init ∈ jAll := jgd (jM3 (List.mem_of_getElem? (i := 237) rfl)) rfl
theorem kim_X6_init : Cond.instanceMethod yX6_init ∈ jAll := jgd (jM3 (List.mem_of_getElem? (i := 238) rfl)) rfl
theorem kco_X6_init : Cond.code yX6_init cX6_init 1 none ∈ jAll := jgd (jM3 (List.mem_of_getElem? (i := 239) rfl)) rfl
theorem kml_X6_1 : Cond.methodLink RX6 1 objectInit ∈ jAll := jgd (jM4 (List.mem_of_getElem? (i := 0) rfl)) rfl
theorem kfl_X6_60 : Cond.fieldLink RX6 60 "MatchingServiceModel" "thrown" "I" ∈ jAll := jgd (jM4 (List.mem_of_getElem? (i := 1) rfl)) rfl
theorem kfl_X6_63 : Cond.fieldLink RX6 63 "MatchingServiceModel" "resources" "I" ∈ jAll := jgd (jM4 (List.mem_of_getElem? (i := 2) rfl)) rfl
theorem kfl_X6_9 : Cond.fieldLink RX6 9 "MatchingServiceModel" "capacities" "[I" ∈ jAll := jgd (jM4 (List.mem_of_getElem? (i := 3) rfl)) rfl
theorem kfl_X6_13 : Cond.fieldLink RX6 13 "MatchingServiceModel" "quotas" "[I" ∈ jAll := jgd (jM4 (List.mem_of_getElem? (i := 4) rfl)) rfl
theorem kfl_X6_16 : Cond.fieldLink RX6 16 "MatchingServiceModel" "weights" "[I" ∈ jAll := jgd (jM4 (List.mem_of_getElem? (i := 5) rfl)) rfl
theorem kfl_X6_66 : Cond.fieldLink RX6 66 "MatchingServiceModel" "requests" "I" ∈ jAll := jgd (jM4 (List.mem_of_getElem? (i := 6) rfl)) rfl
theorem kfl_X6_19 : Cond.fieldLink RX6 19 "MatchingServiceModel" "groups" "[I" ∈ jAll := jgd (jM4 (List.mem_of_getElem? (i := 7) rfl)) rfl
theorem kfl_X6_22 : Cond.fieldLink RX6 22 "MatchingServiceModel" "masks" "[I" ∈ jAll := jgd (jM4 (List.mem_of_getElem? (i := 8) rfl)) rfl
theorem kfl_X6_25 : Cond.fieldLink RX6 25 "MatchingServiceModel" "states" "[I" ∈ jAll := jgd (jM4 (List.mem_of_getElem? (i := 9) rfl)) rfl
theorem kfl_X6_28 : Cond.fieldLink RX6 28 "MatchingServiceModel" "places" "[I" ∈ jAll := jgd (jM4 (List.mem_of_getElem? (i := 10) rfl)) rfl
theorem kfl_X6_31 : Cond.fieldLink RX6 31 "MatchingServiceModel" "moves" "[I" ∈ jAll := jgd (jM4 (List.mem_of_getElem? (i := 11) rfl)) rfl
theorem kfl_X6_34 : Cond.fieldLink RX6 34 "MatchingServiceModel" "pathLimit" "I" ∈ jAll := jgd (jM4 (List.mem_of_getElem? (i := 12) rfl)) rfl
theorem kfl_X6_38 : Cond.fieldLink RX6 38 "MatchingServiceModel" "moveLimit" "I" ∈ jAll := jgd (jM4 (List.mem_of_getElem? (i := 13) rfl)) rfl
theorem kfl_X6_102 : Cond.fieldLink RX6 102 "MatchingServiceModel" "logged" "I" ∈ jAll := jgd (jM4 (List.mem_of_getElem? (i := 14) rfl)) rfl
theorem kfl_X6_41 : Cond.fieldLink RX6 41 "MatchingServiceModel" "loggedRequests" "[I" ∈ jAll := jgd (jM4 (List.mem_of_getElem? (i := 15) rfl)) rfl
theorem kfl_X6_44 : Cond.fieldLink RX6 44 "MatchingServiceModel" "loggedPlaces" "[I" ∈ jAll := jgd (jM4 (List.mem_of_getElem? (i := 16) rfl)) rfl
theorem kfl_X6_47 : Cond.fieldLink RX6 47 "MatchingServiceModel" "far" "[I" ∈ jAll := jgd (jM4 (List.mem_of_getElem? (i := 17) rfl)) rfl
theorem kfl_X6_50 : Cond.fieldLink RX6 50 "MatchingServiceModel" "isTried" "[Z" ∈ jAll := jgd (jM4 (List.mem_of_getElem? (i := 18) rfl)) rfl
theorem kfl_X6_54 : Cond.fieldLink RX6 54 "MatchingServiceModel" "pathRequests" "[I" ∈ jAll := jgd (jM4 (List.mem_of_getElem? (i := 19) rfl)) rfl
theorem kfl_X6_57 : Cond.fieldLink RX6 57 "MatchingServiceModel" "pathPlaces" "[I" ∈ jAll := jgd (jM4 (List.mem_of_getElem? (i := 20) rfl)) rfl
theorem kml_L_79 : Cond.methodLink RL 79 yX6_thrown ∈ jAll := jgd (jM4 (List.mem_of_getElem? (i := 62) rfl)) rfl
theorem kim_X6_thrown : Cond.instanceMethod yX6_thrown ∈ jAll := jgd (jM4 (List.mem_of_getElem? (i := 63) rfl)) rfl
theorem kse_X6_thrown : Cond.selects RX6 yX6_thrown yX6_thrown ∈ jAll := jgd (jM4 (List.mem_of_getElem? (i := 64) rfl)) rfl
theorem kco_X6_thrown : Cond.code yX6_thrown cX6_thrown 1 (some .int) ∈ jAll := jgd (jM4 (List.mem_of_getElem? (i := 65) rfl)) rfl
theorem kml_L_78 : Cond.methodLink RL 78 yX6_addResource ∈ jAll := jgd (jM4 (List.mem_of_getElem? (i := 66) rfl)) rfl
theorem kim_X6_addResource : Cond.instanceMethod yX6_addResource ∈ jAll := jgd (jM4 (List.mem_of_getElem? (i := 67) rfl)) rfl
theorem kse_X6_addResource : Cond.selects RX6 yX6_addResource yX6_addResource ∈ jAll := jgd (jM4 (List.mem_of_getElem? (i := 68) rfl)) rfl
theorem kco_X6_addResource : Cond.code yX6_addResource cX6_addResource 2 (some .int) ∈ jAll := jgd (jM4 (List.mem_of_getElem? (i := 69) rfl)) rfl
theorem kml_X6_116 : Cond.methodLink RX6 116 yX6_fail ∈ jAll := jgd (jM4 (List.mem_of_getElem? (i := 70) rfl)) rfl
theorem kim_X6_fail : Cond.instanceMethod yX6_fail ∈ jAll := jgd (jM4 (List.mem_of_getElem? (i := 72) rfl)) rfl
theorem kco_X6_fail : Cond.code yX6_fail cX6_fail 2 (some .int) ∈ jAll := jgd (jM4 (List.mem_of_getElem? (i := 73) rfl)) rfl
theorem kml_X6_119 : Cond.methodLink RX6 119 yX6_run ∈ jAll := jgd (jM4 (List.mem_of_getElem? (i := 74) rfl)) rfl
theorem kim_X6_run : Cond.instanceMethod yX6_run ∈ jAll := jgd (jM4 (List.mem_of_getElem? (i := 76) rfl)) rfl
theorem kco_X6_run : Cond.code yX6_run cX6_run 3 (some .int) ∈ jAll := jgd (jM4 (List.mem_of_getElem? (i := 77) rfl)) rfl
theorem kml_X6_105 : Cond.methodLink RX6 105 yX6_next ∈ jAll := jgd (jM4 (List.mem_of_getElem? (i := 78) rfl)) rfl
theorem kim_X6_next : Cond.instanceMethod yX6_next ∈ jAll := jgd (jM4 (List.mem_of_getElem? (i := 80) rfl)) rfl
theorem kco_X6_next : Cond.code yX6_next cX6_next 4 (some .int) ∈ jAll := jgd (jM4 (List.mem_of_getElem? (i := 81) rfl)) rfl
theorem kml_X6_113 : Cond.methodLink RX6 113 yX6_firstIn ∈ jAll := jgd (jM4 (List.mem_of_getElem? (i := 82) rfl)) rfl
theorem kim_X6_firstIn : Cond.instanceMethod yX6_firstIn ∈ jAll := jgd (jM4 (List.mem_of_getElem? (i := 84) rfl)) rfl
theorem kco_X6_firstIn : Cond.code yX6_firstIn cX6_firstIn 3 (some .int) ∈ jAll := jgd (jM4 (List.mem_of_getElem? (i := 85) rfl)) rfl
theorem kml_X6_89 : Cond.methodLink RX6 89 yX6_assignedIn ∈ jAll := jgd (jM4 (List.mem_of_getElem? (i := 86) rfl)) rfl
theorem kim_X6_assignedIn : Cond.instanceMethod yX6_assignedIn ∈ jAll := jgd (jM4 (List.mem_of_getElem? (i := 88) rfl)) rfl
theorem kco_X6_assignedIn : Cond.code yX6_assignedIn cX6_assignedIn 4 (some .int) ∈ jAll := jgd (jM4 (List.mem_of_getElem? (i := 89) rfl)) rfl
theorem kml_X6_109 : Cond.methodLink RX6 109 yX6_isPlaced ∈ jAll := jgd (jM4 (List.mem_of_getElem? (i := 90) rfl)) rfl
theorem kim_X6_isPlaced : Cond.instanceMethod yX6_isPlaced ∈ jAll := jgd (jM4 (List.mem_of_getElem? (i := 92) rfl)) rfl
theorem kco_X6_isPlaced : Cond.code yX6_isPlaced cX6_isPlaced 7 (some .boolean) ∈ jAll := jgd (jM4 (List.mem_of_getElem? (i := 93) rfl)) rfl
theorem kml_X6_92 : Cond.methodLink RX6 92 yX6_firstOf ∈ jAll := jgd (jM4 (List.mem_of_getElem? (i := 94) rfl)) rfl
theorem kim_X6_firstOf : Cond.instanceMethod yX6_firstOf ∈ jAll := jgd (jM4 (List.mem_of_getElem? (i := 96) rfl)) rfl
theorem kco_X6_firstOf : Cond.code yX6_firstOf cX6_firstOf 4 (some .int) ∈ jAll := jgd (jM4 (List.mem_of_getElem? (i := 97) rfl)) rfl
theorem kml_X6_86 : Cond.methodLink RX6 86 yX6_findFar ∈ jAll := jgd (jM4 (List.mem_of_getElem? (i := 98) rfl)) rfl
theorem kim_X6_findFar : Cond.instanceMethod yX6_findFar ∈ jAll := jgd (jM4 (List.mem_of_getElem? (i := 100) rfl)) rfl
theorem kco_X6_findFar : Cond.code yX6_findFar cX6_findFar 4 none ∈ jAll := jgd (jM4 (List.mem_of_getElem? (i := 101) rfl)) rfl
theorem kml_X6_73 : Cond.methodLink RX6 73 yX6_loadOf ∈ jAll := jgd (jM4 (List.mem_of_getElem? (i := 102) rfl)) rfl
theorem kim_X6_loadOf : Cond.instanceMethod yX6_loadOf ∈ jAll := jgd (jM4 (List.mem_of_getElem? (i := 104) rfl)) rfl
theorem kco_X6_loadOf : Cond.code yX6_loadOf cX6_loadOf 4 (some .int) ∈ jAll := jgd (jM4 (List.mem_of_getElem? (i := 105) rfl)) rfl
theorem kml_X6_69 : Cond.methodLink RX6 69 yX6_isAt ∈ jAll := jgd (jM4 (List.mem_of_getElem? (i := 106) rfl)) rfl
theorem kim_X6_isAt : Cond.instanceMethod yX6_isAt ∈ jAll := jgd (jM4 (List.mem_of_getElem? (i := 108) rfl)) rfl
theorem kco_X6_isAt : Cond.code yX6_isAt cX6_isAt 3 (some .boolean) ∈ jAll := jgd (jM4 (List.mem_of_getElem? (i := 109) rfl)) rfl
theorem kml_X6_77 : Cond.methodLink RX6 77 yX6_brings ∈ jAll := jgd (jM4 (List.mem_of_getElem? (i := 110) rfl)) rfl
theorem kim_X6_brings : Cond.instanceMethod yX6_brings ∈ jAll := jgd (jM4 (List.mem_of_getElem? (i := 112) rfl)) rfl
theorem kco_X6_brings : Cond.code yX6_brings cX6_brings 3 (some .boolean) ∈ jAll := jgd (jM4 (List.mem_of_getElem? (i := 113) rfl)) rfl
theorem kml_X6_80 : Cond.methodLink RX6 80 yX6_canMove ∈ jAll := jgd (jM4 (List.mem_of_getElem? (i := 114) rfl)) rfl
theorem kim_X6_canMove : Cond.instanceMethod yX6_canMove ∈ jAll := jgd (jM4 (List.mem_of_getElem? (i := 116) rfl)) rfl
theorem kco_X6_canMove : Cond.code yX6_canMove cX6_canMove 3 (some .boolean) ∈ jAll := jgd (jM4 (List.mem_of_getElem? (i := 117) rfl)) rfl
theorem kml_X6_83 : Cond.methodLink RX6 83 yX6_accepts ∈ jAll := jgd (jM4 (List.mem_of_getElem? (i := 118) rfl)) rfl
theorem kim_X6_accepts : Cond.instanceMethod yX6_accepts ∈ jAll := jgd (jM4 (List.mem_of_getElem? (i := 120) rfl)) rfl
theorem kco_X6_accepts : Cond.code yX6_accepts cX6_accepts 3 (some .boolean) ∈ jAll := jgd (jM4 (List.mem_of_getElem? (i := 121) rfl)) rfl
theorem kml_X6_95 : Cond.methodLink RX6 95 yX6_movedFrom ∈ jAll := jgd (jM4 (List.mem_of_getElem? (i := 122) rfl)) rfl
theorem kim_X6_movedFrom : Cond.instanceMethod yX6_movedFrom ∈ jAll := jgd (jM4 (List.mem_of_getElem? (i := 124) rfl)) rfl
theorem kco_X6_movedFrom : Cond.code yX6_movedFrom cX6_movedFrom 5 (some .int) ∈ jAll := jgd (jM4 (List.mem_of_getElem? (i := 125) rfl)) rfl
theorem kml_X6_98 : Cond.methodLink RX6 98 yX6_log ∈ jAll := jgd (jM4 (List.mem_of_getElem? (i := 126) rfl)) rfl
theorem kim_X6_log : Cond.instanceMethod yX6_log ∈ jAll := jgd (jM4 (List.mem_of_getElem? (i := 128) rfl)) rfl
theorem kco_X6_log : Cond.code yX6_log cX6_log 3 none ∈ jAll := jgd (jM4 (List.mem_of_getElem? (i := 129) rfl)) rfl
theorem kml_L_86 : Cond.methodLink RL 86 yX6_setCapacity ∈ jAll := jgd (jM4 (List.mem_of_getElem? (i := 130) rfl)) rfl
theorem kim_X6_setCapacity : Cond.instanceMethod yX6_setCapacity ∈ jAll := jgd (jM4 (List.mem_of_getElem? (i := 131) rfl)) rfl
theorem kse_X6_setCapacity : Cond.selects RX6 yX6_setCapacity yX6_setCapacity ∈ jAll := jgd (jM4 (List.mem_of_getElem? (i := 132) rfl)) rfl
theorem kco_X6_setCapacity : Cond.code yX6_setCapacity cX6_setCapacity 5 (some .int) ∈ jAll := jgd (jM4 (List.mem_of_getElem? (i := 133) rfl)) rfl
theorem kml_X6_122 : Cond.methodLink RX6 122 yX6_isResource ∈ jAll := jgd (jM4 (List.mem_of_getElem? (i := 134) rfl)) rfl
theorem kim_X6_isResource : Cond.instanceMethod yX6_isResource ∈ jAll := jgd (jM4 (List.mem_of_getElem? (i := 136) rfl)) rfl
theorem kco_X6_isResource : Cond.code yX6_isResource cX6_isResource 2 (some .boolean) ∈ jAll := jgd (jM4 (List.mem_of_getElem? (i := 137) rfl)) rfl
theorem kml_L_90 : Cond.methodLink RL 90 yX6_setGroup ∈ jAll := jgd (jM4 (List.mem_of_getElem? (i := 138) rfl)) rfl
theorem kim_X6_setGroup : Cond.instanceMethod yX6_setGroup ∈ jAll := jgd (jM4 (List.mem_of_getElem? (i := 139) rfl)) rfl
theorem kse_X6_setGroup : Cond.selects RX6 yX6_setGroup yX6_setGroup ∈ jAll := jgd (jM4 (List.mem_of_getElem? (i := 140) rfl)) rfl
theorem kco_X6_setGroup : Cond.code yX6_setGroup cX6_setGroup 6 (some .int) ∈ jAll := jgd (jM4 (List.mem_of_getElem? (i := 141) rfl)) rfl
theorem kml_X6_125 : Cond.methodLink RX6 125 yX6_isGroup ∈ jAll := jgd (jM4 (List.mem_of_getElem? (i := 142) rfl)) rfl
theorem kst_X6_isGroup : Cond.static yX6_isGroup ∈ jAll := jgd (jM4 (List.mem_of_getElem? (i := 143) rfl)) rfl
theorem kco_X6_isGroup : Cond.code yX6_isGroup cX6_isGroup 1 (some .boolean) ∈ jAll := jgd (jM4 (List.mem_of_getElem? (i := 144) rfl)) rfl
theorem kml_L_93 : Cond.methodLink RL 93 yX6_setLimits ∈ jAll := jgd (jM4 (List.mem_of_getElem? (i := 145) rfl)) rfl
theorem kim_X6_setLimits : Cond.instanceMethod yX6_setLimits ∈ jAll := jgd (jM4 (List.mem_of_getElem? (i := 146) rfl)) rfl
theorem kse_X6_setLimits : Cond.selects RX6 yX6_setLimits yX6_setLimits ∈ jAll := jgd (jM4 (List.mem_of_getElem? (i := 147) rfl)) rfl
theorem kco_X6_setLimits : Cond.code yX6_setLimits cX6_setLimits 3 (some .int) ∈ jAll := jgd (jM4 (List.mem_of_getElem? (i := 148) rfl)) rfl
theorem kml_L_96 : Cond.methodLink RL 96 yX6_arrive ∈ jAll := jgd (jM4 (List.mem_of_getElem? (i := 149) rfl)) rfl
theorem kim_X6_arrive : Cond.instanceMethod yX6_arrive ∈ jAll := jgd (jM4 (List.mem_of_getElem? (i := 150) rfl)) rfl
theorem kse_X6_arrive : Cond.selects RX6 yX6_arrive yX6_arrive ∈ jAll := jgd (jM4 (List.mem_of_getElem? (i := 151) rfl)) rfl
theorem kco_X6_arrive : Cond.code yX6_arrive cX6_arrive 4 (some .int) ∈ jAll := jgd (jM4 (List.mem_of_getElem? (i := 152) rfl)) rfl
theorem kml_X6_128 : Cond.methodLink RX6 128 yX6_isMask ∈ jAll := jgd (jM4 (List.mem_of_getElem? (i := 153) rfl)) rfl
theorem kim_X6_isMask : Cond.instanceMethod yX6_isMask ∈ jAll := jgd (jM4 (List.mem_of_getElem? (i := 155) rfl)) rfl
theorem kco_X6_isMask : Cond.code yX6_isMask cX6_isMask 2 (some .boolean) ∈ jAll := jgd (jM4 (List.mem_of_getElem? (i := 156) rfl)) rfl
theorem kml_L_99 : Cond.methodLink RL 99 yX6_depart ∈ jAll := jgd (jM4 (List.mem_of_getElem? (i := 157) rfl)) rfl
theorem kim_X6_depart : Cond.instanceMethod yX6_depart ∈ jAll := jgd (jM4 (List.mem_of_getElem? (i := 158) rfl)) rfl
theorem kse_X6_depart : Cond.selects RX6 yX6_depart yX6_depart ∈ jAll := jgd (jM4 (List.mem_of_getElem? (i := 159) rfl)) rfl
theorem kco_X6_depart : Cond.code yX6_depart cX6_depart 2 (some .int) ∈ jAll := jgd (jM4 (List.mem_of_getElem? (i := 160) rfl)) rfl
theorem kml_X6_131 : Cond.methodLink RX6 131 yX6_isRequest ∈ jAll := jgd (jM4 (List.mem_of_getElem? (i := 161) rfl)) rfl
theorem kim_X6_isRequest : Cond.instanceMethod yX6_isRequest ∈ jAll := jgd (jM4 (List.mem_of_getElem? (i := 163) rfl)) rfl
theorem kco_X6_isRequest : Cond.code yX6_isRequest cX6_isRequest 2 (some .boolean) ∈ jAll := jgd (jM4 (List.mem_of_getElem? (i := 164) rfl)) rfl
theorem kml_L_102 : Cond.methodLink RL 102 yX6_setAccepts ∈ jAll := jgd (jM4 (List.mem_of_getElem? (i := 165) rfl)) rfl
theorem kim_X6_setAccepts : Cond.instanceMethod yX6_setAccepts ∈ jAll := jgd (jM4 (List.mem_of_getElem? (i := 166) rfl)) rfl
theorem kse_X6_setAccepts : Cond.selects RX6 yX6_setAccepts yX6_setAccepts ∈ jAll := jgd (jM4 (List.mem_of_getElem? (i := 167) rfl)) rfl
theorem kco_X6_setAccepts : Cond.code yX6_setAccepts cX6_setAccepts 3 (some .boolean) ∈ jAll := jgd (jM4 (List.mem_of_getElem? (i := 168) rfl)) rfl
theorem kml_L_106 : Cond.methodLink RL 106 yX6_resourceCount ∈ jAll := jgd (jM4 (List.mem_of_getElem? (i := 169) rfl)) rfl
theorem kim_X6_resourceCount : Cond.instanceMethod yX6_resourceCount ∈ jAll := jgd (jM4 (List.mem_of_getElem? (i := 170) rfl)) rfl
theorem kse_X6_resourceCount : Cond.selects RX6 yX6_resourceCount yX6_resourceCount ∈ jAll := jgd (jM4 (List.mem_of_getElem? (i := 171) rfl)) rfl
theorem kco_X6_resourceCount : Cond.code yX6_resourceCount cX6_resourceCount 1 (some .int) ∈ jAll := jgd (jM4 (List.mem_of_getElem? (i := 172) rfl)) rfl
theorem kml_L_110 : Cond.methodLink RL 110 yX6_arrivedCount ∈ jAll := jgd (jM4 (List.mem_of_getElem? (i := 173) rfl)) rfl
theorem kim_X6_arrivedCount : Cond.instanceMethod yX6_arrivedCount ∈ jAll := jgd (jM4 (List.mem_of_getElem? (i := 174) rfl)) rfl
theorem kse_X6_arrivedCount : Cond.selects RX6 yX6_arrivedCount yX6_arrivedCount ∈ jAll := jgd (jM4 (List.mem_of_getElem? (i := 175) rfl)) rfl
theorem kco_X6_arrivedCount : Cond.code yX6_arrivedCount cX6_arrivedCount 1 (some .int) ∈ jAll := jgd (jM4 (List.mem_of_getElem? (i := 176) rfl)) rfl
theorem kml_L_114 : Cond.methodLink RL 114 yX6_assignedCount ∈ jAll := jgd (jM4 (List.mem_of_getElem? (i := 177) rfl)) rfl
theorem kim_X6_assignedCount : Cond.instanceMethod yX6_assignedCount ∈ jAll := jgd (jM4 (List.mem_of_getElem? (i := 178) rfl)) rfl
theorem kse_X6_assignedCount : Cond.selects RX6 yX6_assignedCount yX6_assignedCount ∈ jAll := jgd (jM4 (List.mem_of_getElem? (i := 179) rfl)) rfl
theorem kco_X6_assignedCount : Cond.code yX6_assignedCount cX6_assignedCount 1 (some .int) ∈ jAll := jgd (jM4 (List.mem_of_getElem? (i := 180) rfl)) rfl
theorem kml_X6_134 : Cond.methodLink RX6 134 yX6_countOf ∈ jAll := jgd (jM4 (List.mem_of_getElem? (i := 181) rfl)) rfl
theorem kim_X6_countOf : Cond.instanceMethod yX6_countOf ∈ jAll := jgd (jM4 (List.mem_of_getElem? (i := 183) rfl)) rfl
theorem kco_X6_countOf : Cond.code yX6_countOf cX6_countOf 4 (some .int) ∈ jAll := jgd (jM4 (List.mem_of_getElem? (i := 184) rfl)) rfl
theorem kml_L_118 : Cond.methodLink RL 118 yX6_waitingCount ∈ jAll := jgd (jM4 (List.mem_of_getElem? (i := 185) rfl)) rfl
theorem kim_X6_waitingCount : Cond.instanceMethod yX6_waitingCount ∈ jAll := jgd (jM4 (List.mem_of_getElem? (i := 186) rfl)) rfl
theorem kse_X6_waitingCount : Cond.selects RX6 yX6_waitingCount yX6_waitingCount ∈ jAll := jgd (jM4 (List.mem_of_getElem? (i := 187) rfl)) rfl
theorem kco_X6_waitingCount : Cond.code yX6_waitingCount cX6_waitingCount 1 (some .int) ∈ jAll := jgd (jM4 (List.mem_of_getElem? (i := 188) rfl)) rfl
theorem kml_L_121 : Cond.methodLink RL 121 yX6_assignedOf ∈ jAll := jgd (jM4 (List.mem_of_getElem? (i := 189) rfl)) rfl
theorem kim_X6_assignedOf : Cond.instanceMethod yX6_assignedOf ∈ jAll := jgd (jM4 (List.mem_of_getElem? (i := 190) rfl)) rfl
theorem kse_X6_assignedOf : Cond.selects RX6 yX6_assignedOf yX6_assignedOf ∈ jAll := jgd (jM4 (List.mem_of_getElem? (i := 191) rfl)) rfl
theorem kco_X6_assignedOf : Cond.code yX6_assignedOf cX6_assignedOf 2 (some .int) ∈ jAll := jgd (jM4 (List.mem_of_getElem? (i := 192) rfl)) rfl
theorem kml_L_124 : Cond.methodLink RL 124 yX6_load ∈ jAll := jgd (jM4 (List.mem_of_getElem? (i := 193) rfl)) rfl
theorem kim_X6_load : Cond.instanceMethod yX6_load ∈ jAll := jgd (jM4 (List.mem_of_getElem? (i := 194) rfl)) rfl
theorem kse_X6_load : Cond.selects RX6 yX6_load yX6_load ∈ jAll := jgd (jM4 (List.mem_of_getElem? (i := 195) rfl)) rfl
theorem kco_X6_load : Cond.code yX6_load cX6_load 2 (some .int) ∈ jAll := jgd (jM4 (List.mem_of_getElem? (i := 196) rfl)) rfl
theorem kml_L_127 : Cond.methodLink RL 127 yX6_state ∈ jAll := jgd (jM4 (List.mem_of_getElem? (i := 197) rfl)) rfl
theorem kim_X6_state : Cond.instanceMethod yX6_state ∈ jAll := jgd (jM4 (List.mem_of_getElem? (i := 198) rfl)) rfl
theorem kse_X6_state : Cond.selects RX6 yX6_state yX6_state ∈ jAll := jgd (jM4 (List.mem_of_getElem? (i := 199) rfl)) rfl
theorem kco_X6_state : Cond.code yX6_state cX6_state 2 (some .int) ∈ jAll := jgd (jM4 (List.mem_of_getElem? (i := 200) rfl)) rfl
theorem kml_L_130 : Cond.methodLink RL 130 yX6_resourceOf ∈ jAll := jgd (jM4 (List.mem_of_getElem? (i := 201) rfl)) rfl
theorem kim_X6_resourceOf : Cond.instanceMethod yX6_resourceOf ∈ jAll := jgd (jM4 (List.mem_of_getElem? (i := 202) rfl)) rfl
theorem kse_X6_resourceOf : Cond.selects RX6 yX6_resourceOf yX6_resourceOf ∈ jAll := jgd (jM4 (List.mem_of_getElem? (i := 203) rfl)) rfl
theorem kco_X6_resourceOf : Cond.code yX6_resourceOf cX6_resourceOf 2 (some .int) ∈ jAll := jgd (jM4 (List.mem_of_getElem? (i := 204) rfl)) rfl
theorem kml_L_133 : Cond.methodLink RL 133 yX6_movesOf ∈ jAll := jgd (jM4 (List.mem_of_getElem? (i := 205) rfl)) rfl
theorem kim_X6_movesOf : Cond.instanceMethod yX6_movesOf ∈ jAll := jgd (jM4 (List.mem_of_getElem? (i := 206) rfl)) rfl
theorem kse_X6_movesOf : Cond.selects RX6 yX6_movesOf yX6_movesOf ∈ jAll := jgd (jM4 (List.mem_of_getElem? (i := 207) rfl)) rfl
theorem kco_X6_movesOf : Cond.code yX6_movesOf cX6_movesOf 2 (some .int) ∈ jAll := jgd (jM4 (List.mem_of_getElem? (i := 208) rfl)) rfl
theorem kml_L_137 : Cond.methodLink RL 137 yX6_moveCount ∈ jAll := jgd (jM4 (List.mem_of_getElem? (i := 209) rfl)) rfl
theorem kim_X6_moveCount : Cond.instanceMethod yX6_moveCount ∈ jAll := jgd (jM4 (List.mem_of_getElem? (i := 210) rfl)) rfl
theorem kse_X6_moveCount : Cond.selects RX6 yX6_moveCount yX6_moveCount ∈ jAll := jgd (jM4 (List.mem_of_getElem? (i := 211) rfl)) rfl
theorem kco_X6_moveCount : Cond.code yX6_moveCount cX6_moveCount 1 (some .int) ∈ jAll := jgd (jM4 (List.mem_of_getElem? (i := 212) rfl)) rfl
theorem kml_L_140 : Cond.methodLink RL 140 yX6_movedRequest ∈ jAll := jgd (jM4 (List.mem_of_getElem? (i := 213) rfl)) rfl
theorem kim_X6_movedRequest : Cond.instanceMethod yX6_movedRequest ∈ jAll := jgd (jM4 (List.mem_of_getElem? (i := 214) rfl)) rfl
theorem kse_X6_movedRequest : Cond.selects RX6 yX6_movedRequest yX6_movedRequest ∈ jAll := jgd (jM4 (List.mem_of_getElem? (i := 215) rfl)) rfl
theorem kco_X6_movedRequest : Cond.code yX6_movedRequest cX6_movedRequest 2 (some .int) ∈ jAll := jgd (jM4 (List.mem_of_getElem? (i := 216) rfl)) rfl
theorem kml_L_143 : Cond.methodLink RL 143 yX6_movedTo ∈ jAll := jgd (jM4 (List.mem_of_getElem? (i := 217) rfl)) rfl
theorem kim_X6_movedTo : Cond.instanceMethod yX6_movedTo ∈ jAll := jgd (jM4 (List.mem_of_getElem? (i := 218) rfl)) rfl
theorem kse_X6_movedTo : Cond.selects RX6 yX6_movedTo yX6_movedTo ∈ jAll := jgd (jM4 (List.mem_of_getElem? (i := 219) rfl)) rfl
theorem kco_X6_movedTo : Cond.code yX6_movedTo cX6_movedTo 2 (some .int) ∈ jAll := jgd (jM4 (List.mem_of_getElem? (i := 220) rfl)) rfl
theorem kml_L_146 : Cond.methodLink RL 146 yX6_movesNeeded ∈ jAll := jgd (jM4 (List.mem_of_getElem? (i := 221) rfl)) rfl
theorem kim_X6_movesNeeded : Cond.instanceMethod yX6_movesNeeded ∈ jAll := jgd (jM4 (List.mem_of_getElem? (i := 222) rfl)) rfl
theorem kse_X6_movesNeeded : Cond.selects RX6 yX6_movesNeeded yX6_movesNeeded ∈ jAll := jgd (jM4 (List.mem_of_getElem? (i := 223) rfl)) rfl
theorem kco_X6_movesNeeded : Cond.code yX6_movesNeeded cX6_movesNeeded 3 (some .int) ∈ jAll := jgd (jM4 (List.mem_of_getElem? (i := 224) rfl)) rfl
theorem kml_L_150 : Cond.methodLink RL 150 yX6_greatestPossible ∈ jAll := jgd (jM4 (List.mem_of_getElem? (i := 225) rfl)) rfl
theorem kim_X6_greatestPossible : Cond.instanceMethod yX6_greatestPossible ∈ jAll := jgd (jM4 (List.mem_of_getElem? (i := 226) rfl)) rfl
theorem kse_X6_greatestPossible : Cond.selects RX6 yX6_greatestPossible yX6_greatestPossible ∈ jAll := jgd (jM4 (List.mem_of_getElem? (i := 227) rfl)) rfl
theorem kco_X6_greatestPossible : Cond.code yX6_greatestPossible cX6_greatestPossible 1 (some .int) ∈ jAll := jgd (jM4 (List.mem_of_getElem? (i := 228) rfl)) rfl
theorem kml_X6_143 : Cond.methodLink RX6 143 yX6_possible ∈ jAll := jgd (jM4 (List.mem_of_getElem? (i := 229) rfl)) rfl
theorem kim_X6_possible : Cond.instanceMethod yX6_possible ∈ jAll := jgd (jM4 (List.mem_of_getElem? (i := 231) rfl)) rfl
theorem kco_X6_possible : Cond.code yX6_possible cX6_possible 6 (some .int) ∈ jAll := jgd (jM4 (List.mem_of_getElem? (i := 232) rfl)) rfl
theorem kml_X6_137 : Cond.methodLink RX6 137 yJ9_min_7cf53 ∈ jAll := jgd (jM4 (List.mem_of_getElem? (i := 233) rfl)) rfl
theorem kst_J9_min_7cf53 : Cond.static yJ9_min_7cf53 ∈ jAll := jgd (jM4 (List.mem_of_getElem? (i := 234) rfl)) rfl
theorem kco_J9_min_7cf53 : Cond.code yJ9_min_7cf53 cJ9_min_7cf53 2 (some .int) ∈ jAll := jgd (jM4 (List.mem_of_getElem? (i := 235) rfl)) rfl
theorem kml_L_153 : Cond.methodLink RL 153 yX6_gainBy ∈ jAll := jgd (jM4 (List.mem_of_getElem? (i := 236) rfl)) rfl
theorem kim_X6_gainBy : Cond.instanceMethod yX6_gainBy ∈ jAll := jgd (jM4 (List.mem_of_getElem? (i := 237) rfl)) rfl
theorem kse_X6_gainBy : Cond.selects RX6 yX6_gainBy yX6_gainBy ∈ jAll := jgd (jM4 (List.mem_of_getElem? (i := 238) rfl)) rfl
theorem kco_X6_gainBy : Cond.code yX6_gainBy cX6_gainBy 5 (some .int) ∈ jAll := jgd (jM4 (List.mem_of_getElem? (i := 239) rfl)) rfl
theorem kml_L_158 : Cond.methodLink RL 158 yX6_fairness ∈ jAll := jgd (jM5 (List.mem_of_getElem? (i := 0) rfl)) rfl
theorem kim_X6_fairness : Cond.instanceMethod yX6_fairness ∈ jAll := jgd (jM5 (List.mem_of_getElem? (i := 1) rfl)) rfl
theorem kse_X6_fairness : Cond.selects RX6 yX6_fairness yX6_fairness ∈ jAll := jgd (jM5 (List.mem_of_getElem? (i := 2) rfl)) rfl
theorem kco_X6_fairness : Cond.code yX6_fairness cX6_fairness 8 (some .double) ∈ jAll := jgd (jM5 (List.mem_of_getElem? (i := 3) rfl)) rfl
theorem kcn_X6_146 : Cond.constantDouble RX6 146 (4616189618054758400 : UInt64) ∈ jAll := jgd (jM5 (List.mem_of_getElem? (i := 4) rfl)) rfl
theorem kml_L_163 : Cond.methodLink RL 163 yX6_digest ∈ jAll := jgd (jM5 (List.mem_of_getElem? (i := 5) rfl)) rfl
theorem kim_X6_digest : Cond.instanceMethod yX6_digest ∈ jAll := jgd (jM5 (List.mem_of_getElem? (i := 6) rfl)) rfl
theorem kse_X6_digest : Cond.selects RX6 yX6_digest yX6_digest ∈ jAll := jgd (jM5 (List.mem_of_getElem? (i := 7) rfl)) rfl
theorem kco_X6_digest : Cond.code yX6_digest cX6_digest 4 (some .long) ∈ jAll := jgd (jM5 (List.mem_of_getElem? (i := 8) rfl)) rfl
theorem kcn_X6_148 : Cond.constantLong RX6 148 (1333 : Int64) ∈ jAll := jgd (jM5 (List.mem_of_getElem? (i := 9) rfl)) rfl
theorem kcn_X6_150 : Cond.constantLong RX6 150 (31 : Int64) ∈ jAll := jgd (jM5 (List.mem_of_getElem? (i := 10) rfl)) rfl
theorem kac_long : Cond.arrayClass .long ∈ jAll := jgd (jM5 (List.mem_of_getElem? (i := 11) rfl)) rfl
theorem kse_X0_copyAssignment : Cond.selects RX0 yX0_copyAssignment yX0_copyAssignment ∈ jAll := jgd (jMp (List.mem_of_getElem? (i := 0) rfl)) rfl
theorem kse_X0_startOf : Cond.selects RX0 yX0_startOf yX0_startOf ∈ jAll := jgd (jMp (List.mem_of_getElem? (i := 1) rfl)) rfl
theorem kse_X0_augment : Cond.selects RX0 yX0_augment yX0_augment ∈ jAll := jgd (jMp (List.mem_of_getElem? (i := 2) rfl)) rfl
theorem kse_X0_startAtGroups : Cond.selects RX0 yX0_startAtGroups yX0_startAtGroups ∈ jAll := jgd (jMp (List.mem_of_getElem? (i := 3) rfl)) rfl
theorem kse_X0_reach : Cond.selects RX0 yX0_reach yX0_reach ∈ jAll := jgd (jMp (List.mem_of_getElem? (i := 4) rfl)) rfl
theorem kse_X0_leave : Cond.selects RX0 yX0_leave yX0_leave ∈ jAll := jgd (jMp (List.mem_of_getElem? (i := 5) rfl)) rfl
theorem kse_X0_leaveWith : Cond.selects RX0 yX0_leaveWith yX0_leaveWith ∈ jAll := jgd (jMp (List.mem_of_getElem? (i := 6) rfl)) rfl
theorem kse_X0_shiftAlong : Cond.selects RX0 yX0_shiftAlong yX0_shiftAlong ∈ jAll := jgd (jMp (List.mem_of_getElem? (i := 7) rfl)) rfl
theorem kse_X3_nextToTry : Cond.selects RX3 yX3_nextToTry yX3_nextToTry ∈ jAll := jgd (jMp (List.mem_of_getElem? (i := 9) rfl)) rfl
theorem kse_X3_isServedBefore : Cond.selects RX3 yX3_isServedBefore yX3_isServedBefore ∈ jAll := jgd (jMp (List.mem_of_getElem? (i := 10) rfl)) rfl
theorem kse_X2_collectSuccessors : Cond.selects RX2 yX2_collectSuccessors yX2_collectSuccessors ∈ jAll := jgd (jMp (List.mem_of_getElem? (i := 11) rfl)) rfl
theorem kse_X2_buildLayers : Cond.selects RX2 yX2_buildLayers yX2_buildLayers ∈ jAll := jgd (jMp (List.mem_of_getElem? (i := 12) rfl)) rfl
theorem kse_X2_leadingTo : Cond.selects RX2 yX2_leadingTo yX2_leadingTo ∈ jAll := jgd (jMp (List.mem_of_getElem? (i := 13) rfl)) rfl
theorem kse_X2_shortestFrom : Cond.selects RX2 yX2_shortestFrom yX2_shortestFrom ∈ jAll := jgd (jMp (List.mem_of_getElem? (i := 14) rfl)) rfl
theorem kse_X2_trace : Cond.selects RX2 yX2_trace yX2_trace ∈ jAll := jgd (jMp (List.mem_of_getElem? (i := 15) rfl)) rfl
theorem kse_X2_firstMovable : Cond.selects RX2 yX2_firstMovable yX2_firstMovable ∈ jAll := jgd (jMp (List.mem_of_getElem? (i := 16) rfl)) rfl
theorem kse_X3_placeAlongPath : Cond.selects RX3 yX3_placeAlongPath yX3_placeAlongPath ∈ jAll := jgd (jMp (List.mem_of_getElem? (i := 17) rfl)) rfl
theorem kse_X5_requireResource : Cond.selects RX5 yX5_requireResource yX5_requireResource ∈ jAll := jgd (jMp (List.mem_of_getElem? (i := 18) rfl)) rfl
theorem kse_X5_requireGroup : Cond.selects RX5 yX5_requireGroup yX5_requireGroup ∈ jAll := jgd (jMp (List.mem_of_getElem? (i := 19) rfl)) rfl
theorem kse_X5_requireMask : Cond.selects RX5 yX5_requireMask yX5_requireMask ∈ jAll := jgd (jMp (List.mem_of_getElem? (i := 20) rfl)) rfl
theorem kse_X5_requirePresent : Cond.selects RX5 yX5_requirePresent yX5_requirePresent ∈ jAll := jgd (jMp (List.mem_of_getElem? (i := 21) rfl)) rfl
theorem kse_X5_requireRequest : Cond.selects RX5 yX5_requireRequest yX5_requireRequest ∈ jAll := jgd (jMp (List.mem_of_getElem? (i := 22) rfl)) rfl
theorem kse_X5_requireLogged : Cond.selects RX5 yX5_requireLogged yX5_requireLogged ∈ jAll := jgd (jMp (List.mem_of_getElem? (i := 23) rfl)) rfl
theorem kse_X6_fail : Cond.selects RX6 yX6_fail yX6_fail ∈ jAll := jgd (jMp (List.mem_of_getElem? (i := 24) rfl)) rfl
theorem kse_X6_run : Cond.selects RX6 yX6_run yX6_run ∈ jAll := jgd (jMp (List.mem_of_getElem? (i := 25) rfl)) rfl
theorem kse_X6_next : Cond.selects RX6 yX6_next yX6_next ∈ jAll := jgd (jMp (List.mem_of_getElem? (i := 26) rfl)) rfl
theorem kse_X6_firstIn : Cond.selects RX6 yX6_firstIn yX6_firstIn ∈ jAll := jgd (jMp (List.mem_of_getElem? (i := 27) rfl)) rfl
theorem kse_X6_assignedIn : Cond.selects RX6 yX6_assignedIn yX6_assignedIn ∈ jAll := jgd (jMp (List.mem_of_getElem? (i := 28) rfl)) rfl
theorem kse_X6_isPlaced : Cond.selects RX6 yX6_isPlaced yX6_isPlaced ∈ jAll := jgd (jMp (List.mem_of_getElem? (i := 29) rfl)) rfl
theorem kse_X6_firstOf : Cond.selects RX6 yX6_firstOf yX6_firstOf ∈ jAll := jgd (jMp (List.mem_of_getElem? (i := 30) rfl)) rfl
theorem kse_X6_findFar : Cond.selects RX6 yX6_findFar yX6_findFar ∈ jAll := jgd (jMp (List.mem_of_getElem? (i := 31) rfl)) rfl
theorem kse_X6_loadOf : Cond.selects RX6 yX6_loadOf yX6_loadOf ∈ jAll := jgd (jMp (List.mem_of_getElem? (i := 32) rfl)) rfl
theorem kse_X6_isAt : Cond.selects RX6 yX6_isAt yX6_isAt ∈ jAll := jgd (jMp (List.mem_of_getElem? (i := 33) rfl)) rfl
theorem kse_X6_brings : Cond.selects RX6 yX6_brings yX6_brings ∈ jAll := jgd (jMp (List.mem_of_getElem? (i := 34) rfl)) rfl
theorem kse_X6_canMove : Cond.selects RX6 yX6_canMove yX6_canMove ∈ jAll := jgd (jMp (List.mem_of_getElem? (i := 35) rfl)) rfl
theorem kse_X6_accepts : Cond.selects RX6 yX6_accepts yX6_accepts ∈ jAll := jgd (jMp (List.mem_of_getElem? (i := 36) rfl)) rfl
theorem kse_X6_movedFrom : Cond.selects RX6 yX6_movedFrom yX6_movedFrom ∈ jAll := jgd (jMp (List.mem_of_getElem? (i := 37) rfl)) rfl
theorem kse_X6_log : Cond.selects RX6 yX6_log yX6_log ∈ jAll := jgd (jMp (List.mem_of_getElem? (i := 38) rfl)) rfl
theorem kse_X6_isResource : Cond.selects RX6 yX6_isResource yX6_isResource ∈ jAll := jgd (jMp (List.mem_of_getElem? (i := 39) rfl)) rfl
theorem kse_X6_isMask : Cond.selects RX6 yX6_isMask yX6_isMask ∈ jAll := jgd (jMp (List.mem_of_getElem? (i := 40) rfl)) rfl
theorem kse_X6_isRequest : Cond.selects RX6 yX6_isRequest yX6_isRequest ∈ jAll := jgd (jMp (List.mem_of_getElem? (i := 41) rfl)) rfl
theorem kse_X6_countOf : Cond.selects RX6 yX6_countOf yX6_countOf ∈ jAll := jgd (jMp (List.mem_of_getElem? (i := 42) rfl)) rfl
theorem kse_X6_possible : Cond.selects RX6 yX6_possible yX6_possible ∈ jAll := jgd (jMp (List.mem_of_getElem? (i := 43) rfl)) rfl
theorem jU_X0 : ∀ w ∈ u_ws RX0 TX0 10, w ∈ jAll := by
  intro w h
  obtain ⟨k, hk, rfl⟩ := List.mem_map.mp h
  have hk := List.mem_range.mp hk
  match k, hk with
  | 0, _ => exact jgd (jM1 (List.mem_of_getElem? (i := 183) rfl)) rfl
  | 1, _ => exact jgd (jM1 (List.mem_of_getElem? (i := 185) rfl)) rfl
  | 2, _ => exact jgd (jM1 (List.mem_of_getElem? (i := 187) rfl)) rfl
  | 3, _ => exact jgd (jM1 (List.mem_of_getElem? (i := 189) rfl)) rfl
  | 4, _ => exact jgd (jM1 (List.mem_of_getElem? (i := 191) rfl)) rfl
  | 5, _ => exact jgd (jM1 (List.mem_of_getElem? (i := 193) rfl)) rfl
  | 6, _ => exact jgd (jM1 (List.mem_of_getElem? (i := 195) rfl)) rfl
  | 7, _ => exact jgd (jM1 (List.mem_of_getElem? (i := 197) rfl)) rfl
  | 8, _ => exact jgd (jM1 (List.mem_of_getElem? (i := 199) rfl)) rfl
  | 9, _ => exact jgd (jM1 (List.mem_of_getElem? (i := 201) rfl)) rfl
  | k + 10, hk => exact absurd hk (by omega)
theorem jU_X1 : ∀ w ∈ u_ws RX1 TX1 3, w ∈ jAll := by
  intro w h
  obtain ⟨k, hk, rfl⟩ := List.mem_map.mp h
  have hk := List.mem_range.mp hk
  match k, hk with
  | 0, _ => exact jgd (jM1 (List.mem_of_getElem? (i := 112) rfl)) rfl
  | 1, _ => exact jgd (jM1 (List.mem_of_getElem? (i := 114) rfl)) rfl
  | 2, _ => exact jgd (jM1 (List.mem_of_getElem? (i := 116) rfl)) rfl
  | k + 3, hk => exact absurd hk (by omega)
theorem jU_X2 : ∀ w ∈ u_ws RX2 TX2 6, w ∈ jAll := by
  intro w h
  obtain ⟨k, hk, rfl⟩ := List.mem_map.mp h
  have hk := List.mem_range.mp hk
  match k, hk with
  | 0, _ => exact jgd (jM1 (List.mem_of_getElem? (i := 134) rfl)) rfl
  | 1, _ => exact jgd (jM1 (List.mem_of_getElem? (i := 136) rfl)) rfl
  | 2, _ => exact jgd (jM1 (List.mem_of_getElem? (i := 138) rfl)) rfl
  | 3, _ => exact jgd (jM1 (List.mem_of_getElem? (i := 140) rfl)) rfl
  | 4, _ => exact jgd (jM1 (List.mem_of_getElem? (i := 142) rfl)) rfl
  | 5, _ => exact jgd (jM1 (List.mem_of_getElem? (i := 144) rfl)) rfl
  | k + 6, hk => exact absurd hk (by omega)
theorem jU_X3 : ∀ w ∈ u_ws RX3 TX3 4, w ∈ jAll := by
  intro w h
  obtain ⟨k, hk, rfl⟩ := List.mem_map.mp h
  have hk := List.mem_range.mp hk
  match k, hk with
  | 0, _ => exact jgd (jM1 (List.mem_of_getElem? (i := 157) rfl)) rfl
  | 1, _ => exact jgd (jM1 (List.mem_of_getElem? (i := 159) rfl)) rfl
  | 2, _ => exact jgd (jM1 (List.mem_of_getElem? (i := 161) rfl)) rfl
  | 3, _ => exact jgd (jM1 (List.mem_of_getElem? (i := 163) rfl)) rfl
  | k + 4, hk => exact absurd hk (by omega)
theorem jU_X4 : ∀ w ∈ u_ws RX4 TX4 13, w ∈ jAll := by
  intro w h
  obtain ⟨k, hk, rfl⟩ := List.mem_map.mp h
  have hk := List.mem_range.mp hk
  match k, hk with
  | 0, _ => exact jgd (jM1 (List.mem_of_getElem? (i := 72) rfl)) rfl
  | 1, _ => exact jgd (jM1 (List.mem_of_getElem? (i := 74) rfl)) rfl
  | 2, _ => exact jgd (jM1 (List.mem_of_getElem? (i := 76) rfl)) rfl
  | 3, _ => exact jgd (jM1 (List.mem_of_getElem? (i := 78) rfl)) rfl
  | 4, _ => exact jgd (jM1 (List.mem_of_getElem? (i := 80) rfl)) rfl
  | 5, _ => exact jgd (jM1 (List.mem_of_getElem? (i := 82) rfl)) rfl
  | 6, _ => exact jgd (jM1 (List.mem_of_getElem? (i := 84) rfl)) rfl
  | 7, _ => exact jgd (jM1 (List.mem_of_getElem? (i := 86) rfl)) rfl
  | 8, _ => exact jgd (jM1 (List.mem_of_getElem? (i := 88) rfl)) rfl
  | 9, _ => exact jgd (jM1 (List.mem_of_getElem? (i := 90) rfl)) rfl
  | 10, _ => exact jgd (jM1 (List.mem_of_getElem? (i := 92) rfl)) rfl
  | 11, _ => exact jgd (jM1 (List.mem_of_getElem? (i := 94) rfl)) rfl
  | 12, _ => exact jgd (jM1 (List.mem_of_getElem? (i := 96) rfl)) rfl
  | k + 13, hk => exact absurd hk (by omega)
theorem jU_X5 : ∀ w ∈ u_ws RX5 TX5 5, w ∈ jAll := by
  intro w h
  obtain ⟨k, hk, rfl⟩ := List.mem_map.mp h
  have hk := List.mem_range.mp hk
  match k, hk with
  | 0, _ => exact jgd (jM1 (List.mem_of_getElem? (i := 209) rfl)) rfl
  | 1, _ => exact jgd (jM1 (List.mem_of_getElem? (i := 211) rfl)) rfl
  | 2, _ => exact jgd (jM1 (List.mem_of_getElem? (i := 213) rfl)) rfl
  | 3, _ => exact jgd (jM1 (List.mem_of_getElem? (i := 215) rfl)) rfl
  | 4, _ => exact jgd (jM1 (List.mem_of_getElem? (i := 217) rfl)) rfl
  | k + 5, hk => exact absurd hk (by omega)
theorem jU_X6 : ∀ w ∈ u_ws RX6 TX6 20, w ∈ jAll := by
  intro w h
  obtain ⟨k, hk, rfl⟩ := List.mem_map.mp h
  have hk := List.mem_range.mp hk
  match k, hk with
  | 0, _ => exact jgd (jM4 (List.mem_of_getElem? (i := 21) rfl)) rfl
  | 1, _ => exact jgd (jM4 (List.mem_of_getElem? (i := 23) rfl)) rfl
  | 2, _ => exact jgd (jM4 (List.mem_of_getElem? (i := 25) rfl)) rfl
  | 3, _ => exact jgd (jM4 (List.mem_of_getElem? (i := 27) rfl)) rfl
  | 4, _ => exact jgd (jM4 (List.mem_of_getElem? (i := 29) rfl)) rfl
  | 5, _ => exact jgd (jM4 (List.mem_of_getElem? (i := 31) rfl)) rfl
  | 6, _ => exact jgd (jM4 (List.mem_of_getElem? (i := 33) rfl)) rfl
  | 7, _ => exact jgd (jM4 (List.mem_of_getElem? (i := 35) rfl)) rfl
  | 8, _ => exact jgd (jM4 (List.mem_of_getElem? (i := 37) rfl)) rfl
  | 9, _ => exact jgd (jM4 (List.mem_of_getElem? (i := 39) rfl)) rfl
  | 10, _ => exact jgd (jM4 (List.mem_of_getElem? (i := 41) rfl)) rfl
  | 11, _ => exact jgd (jM4 (List.mem_of_getElem? (i := 43) rfl)) rfl
  | 12, _ => exact jgd (jM4 (List.mem_of_getElem? (i := 45) rfl)) rfl
  | 13, _ => exact jgd (jM4 (List.mem_of_getElem? (i := 47) rfl)) rfl
  | 14, _ => exact jgd (jM4 (List.mem_of_getElem? (i := 49) rfl)) rfl
  | 15, _ => exact jgd (jM4 (List.mem_of_getElem? (i := 51) rfl)) rfl
  | 16, _ => exact jgd (jM4 (List.mem_of_getElem? (i := 53) rfl)) rfl
  | 17, _ => exact jgd (jM4 (List.mem_of_getElem? (i := 55) rfl)) rfl
  | 18, _ => exact jgd (jM4 (List.mem_of_getElem? (i := 57) rfl)) rfl
  | 19, _ => exact jgd (jM4 (List.mem_of_getElem? (i := 59) rfl)) rfl
  | k + 20, hk => exact absurd hk (by omega)
