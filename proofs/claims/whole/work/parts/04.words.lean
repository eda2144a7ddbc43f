/-! the words of every method: the good ones of lw_tbl; each by its place -/
def AL : List Cond := lw_tbl.filter goodWord
theorem AL_good {w : Cond} (h : w ∈ AL) : (w.onTables && w.keeps) = true ∨ ∃ ty, w = .arrayClass ty := good_of_word (List.mem_filter.mp h).2
theorem AL_t {w : Cond} (h : w ∈ tables_1) (g : goodWord w = true) : w ∈ AL := List.mem_filter.mpr ⟨List.mem_append_right _ h, g⟩
theorem AL_s {w : Cond} (h : w ∈ k2_sels lw_privs) (g : goodWord w = true) : w ∈ AL := List.mem_filter.mpr ⟨List.mem_append_left _ h, g⟩
theorem tb_1 {w : Cond} (h : w ∈ tables_1_1) : w ∈ tables_1 := List.mem_append_left _ h
theorem tb_2 {w : Cond} (h : w ∈ tables_1_2) : w ∈ tables_1 := List.mem_append_right _ (List.mem_append_left _ h)
theorem tb_3 {w : Cond} (h : w ∈ tables_1_3) : w ∈ tables_1 := List.mem_append_right _ (List.mem_append_right _ (List.mem_append_left _ h))
theorem tb_4 {w : Cond} (h : w ∈ tables_1_4) : w ∈ tables_1 := List.mem_append_right _ (List.mem_append_right _ (List.mem_append_right _ h))
theorem aw_0 : Cond.initialized "SceneTimesLaw" ∈ AL := AL_t (tb_1 (List.mem_of_getElem? (i := 0) (by decide +kernel))) rfl
theorem aw_1 : Cond.initialized "SceneTimes" ∈ AL := AL_t (tb_1 (List.mem_of_getElem? (i := 1) (by decide +kernel))) rfl
theorem aw_2 : Cond.initialized "SceneTimes$Line" ∈ AL := AL_t (tb_1 (List.mem_of_getElem? (i := 2) (by decide +kernel))) rfl
theorem aw_3 : Cond.initialized "SceneTimes$Question" ∈ AL := AL_t (tb_1 (List.mem_of_getElem? (i := 3) (by decide +kernel))) rfl
theorem aw_4 : Cond.initialized "SceneTimes$Sheet" ∈ AL := AL_t (tb_1 (List.mem_of_getElem? (i := 4) (by decide +kernel))) rfl
theorem aw_5 : Cond.initialized "SceneTimesModel" ∈ AL := AL_t (tb_1 (List.mem_of_getElem? (i := 5) (by decide +kernel))) rfl
theorem aw_6 : Cond.initialized "java/lang/Throwable" ∈ AL := AL_t (tb_1 (List.mem_of_getElem? (i := 6) (by decide +kernel))) rfl
theorem aw_7 : Cond.initialized "java/lang/Exception" ∈ AL := AL_t (tb_1 (List.mem_of_getElem? (i := 7) (by decide +kernel))) rfl
theorem aw_8 : Cond.initialized "java/lang/RuntimeException" ∈ AL := AL_t (tb_1 (List.mem_of_getElem? (i := 8) (by decide +kernel))) rfl
theorem aw_9 : Cond.initialized "java/lang/UnsupportedOperationException" ∈ AL := AL_t (tb_1 (List.mem_of_getElem? (i := 9) (by decide +kernel))) rfl
theorem aw_10 : Cond.initialized "java/lang/IllegalArgumentException" ∈ AL := AL_t (tb_1 (List.mem_of_getElem? (i := 10) (by decide +kernel))) rfl
theorem aw_11 : Cond.initialized "java/lang/IndexOutOfBoundsException" ∈ AL := AL_t (tb_1 (List.mem_of_getElem? (i := 11) (by decide +kernel))) rfl
theorem aw_12 : Cond.initialized "SceneTimes$Note" ∈ AL := AL_t (tb_1 (List.mem_of_getElem? (i := 12) (by decide +kernel))) rfl
theorem aw_13 : Cond.initialized "SceneTimes$State" ∈ AL := AL_t (tb_1 (List.mem_of_getElem? (i := 13) (by decide +kernel))) rfl
theorem aw_14 : Cond.initialized "java/lang/IllegalStateException" ∈ AL := AL_t (tb_1 (List.mem_of_getElem? (i := 14) (by decide +kernel))) rfl
theorem aw_15 : Cond.initialized "java/lang/Math" ∈ AL := AL_t (tb_1 (List.mem_of_getElem? (i := 15) (by decide +kernel))) rfl
theorem aw_16 : Cond.classLink "SceneTimesLaw" 8 "SceneTimes" ∈ AL := AL_t (tb_1 (List.mem_of_getElem? (i := 16) (by decide +kernel))) rfl
theorem aw_17 : Cond.instantiable "SceneTimes" 6 ∈ AL := AL_t (tb_1 (List.mem_of_getElem? (i := 17) (by decide +kernel))) rfl
theorem aw_18 : Cond.methodLink "SceneTimesLaw" 64 ⟨"SceneTimes", "<init>", "()V"⟩ ∈ AL := AL_t (tb_1 (List.mem_of_getElem? (i := 18) (by decide +kernel))) rfl
theorem aw_19 : Cond.instanceMethod ⟨"SceneTimes", "<init>", "()V"⟩ ∈ AL := AL_t (tb_1 (List.mem_of_getElem? (i := 19) (by decide +kernel))) rfl
theorem aw_20 : Cond.code ⟨"SceneTimes", "<init>", "()V"⟩ prog_1_method_1_code 1 none ∈ AL := AL_t (tb_1 (List.mem_of_getElem? (i := 20) (rfl))) rfl
theorem aw_21 : Cond.methodLink "SceneTimes" 1 ⟨"java/lang/Object", "<init>", "()V"⟩ ∈ AL := AL_t (tb_1 (List.mem_of_getElem? (i := 21) (by decide +kernel))) rfl
theorem aw_22 : Cond.instanceMethod ⟨"java/lang/Object", "<init>", "()V"⟩ ∈ AL := AL_t (tb_1 (List.mem_of_getElem? (i := 22) (by decide +kernel))) rfl
theorem aw_23 : Cond.code ⟨"java/lang/Object", "<init>", "()V"⟩ object_method_1_code 1 none ∈ AL := AL_t (tb_1 (List.mem_of_getElem? (i := 23) (rfl))) rfl
theorem aw_24 : Cond.classLink "SceneTimes" 7 "SceneTimes$Line" ∈ AL := AL_t (tb_1 (List.mem_of_getElem? (i := 24) (by decide +kernel))) rfl
theorem aw_25 : Cond.instantiable "SceneTimes$Line" 3 ∈ AL := AL_t (tb_1 (List.mem_of_getElem? (i := 25) (by decide +kernel))) rfl
theorem aw_27 : Cond.instanceMethod ⟨"SceneTimes$Line", "<init>", "()V"⟩ ∈ AL := AL_t (tb_1 (List.mem_of_getElem? (i := 27) (by decide +kernel))) rfl
theorem aw_28 : Cond.code ⟨"SceneTimes$Line", "<init>", "()V"⟩ prog_2_method_1_code 1 none ∈ AL := AL_t (tb_1 (List.mem_of_getElem? (i := 28) (rfl))) rfl
theorem aw_29 : Cond.methodLink "SceneTimes$Line" 3 ⟨"java/lang/Object", "<init>", "()V"⟩ ∈ AL := AL_t (tb_1 (List.mem_of_getElem? (i := 29) (by decide +kernel))) rfl
theorem aw_30 : Cond.classLink "SceneTimes$Line" 9 "SceneTimes$Note" ∈ AL := AL_t (tb_1 (List.mem_of_getElem? (i := 30) (by decide +kernel))) rfl
theorem aw_32 : Cond.fieldLink "SceneTimes$Line" 11 "SceneTimes$Line" "byNumber" "[LSceneTimes$Note;" ∈ AL := AL_t (tb_1 (List.mem_of_getElem? (i := 32) (by decide +kernel))) rfl
theorem aw_33 : Cond.fieldLink "SceneTimes" 231 "SceneTimes$Line" "byNumber" "[LSceneTimes$Note;" ∈ AL := AL_t (tb_1 (List.mem_of_getElem? (i := 33) (by decide +kernel))) rfl
theorem aw_34 : Cond.fieldLink "SceneTimes$Line" 17 "SceneTimes$Line" "inOrder" "[LSceneTimes$Note;" ∈ AL := AL_t (tb_1 (List.mem_of_getElem? (i := 34) (by decide +kernel))) rfl
theorem aw_35 : Cond.fieldLink "SceneTimes" 135 "SceneTimes$Line" "inOrder" "[LSceneTimes$Note;" ∈ AL := AL_t (tb_1 (List.mem_of_getElem? (i := 35) (by decide +kernel))) rfl
theorem aw_36 : Cond.fieldLink "SceneTimes$Line" 20 "SceneTimes$Line" "size" "I" ∈ AL := AL_t (tb_1 (List.mem_of_getElem? (i := 36) (by decide +kernel))) rfl
theorem aw_37 : Cond.fieldLink "SceneTimes" 67 "SceneTimes$Line" "size" "I" ∈ AL := AL_t (tb_1 (List.mem_of_getElem? (i := 37) (by decide +kernel))) rfl
theorem aw_38 : Cond.laysFinal "SceneTimes$Line" "SceneTimes$Line" "byNumber" "[LSceneTimes$Note;" ∈ AL := AL_t (tb_1 (List.mem_of_getElem? (i := 38) (by decide +kernel))) rfl
theorem aw_39 : Cond.soleField "SceneTimes$Line" "byNumber" ∈ AL := AL_t (tb_1 (List.mem_of_getElem? (i := 39) (by decide +kernel))) rfl
theorem aw_40 : Cond.laysFinal "SceneTimes$Line" "SceneTimes$Line" "inOrder" "[LSceneTimes$Note;" ∈ AL := AL_t (tb_1 (List.mem_of_getElem? (i := 40) (by decide +kernel))) rfl
theorem aw_41 : Cond.soleField "SceneTimes$Line" "inOrder" ∈ AL := AL_t (tb_1 (List.mem_of_getElem? (i := 41) (by decide +kernel))) rfl
theorem aw_42 : Cond.lays "SceneTimes$Line" "SceneTimes$Line" "size" "I" ∈ AL := AL_t (tb_1 (List.mem_of_getElem? (i := 42) (by decide +kernel))) rfl
theorem aw_43 : Cond.soleField "SceneTimes$Line" "size" ∈ AL := AL_t (tb_1 (List.mem_of_getElem? (i := 43) (by decide +kernel))) rfl
theorem aw_44 : Cond.superclass "SceneTimes$Line" "java/lang/Object" ∈ AL := AL_t (tb_1 (List.mem_of_getElem? (i := 44) (by decide +kernel))) rfl
theorem aw_45 : Cond.classLink "SceneTimes" 16 "SceneTimes$Question" ∈ AL := AL_t (tb_1 (List.mem_of_getElem? (i := 45) (by decide +kernel))) rfl
theorem aw_46 : Cond.instantiable "SceneTimes$Question" 4 ∈ AL := AL_t (tb_1 (List.mem_of_getElem? (i := 46) (by decide +kernel))) rfl
theorem aw_48 : Cond.instanceMethod ⟨"SceneTimes$Question", "<init>", "()V"⟩ ∈ AL := AL_t (tb_1 (List.mem_of_getElem? (i := 48) (by decide +kernel))) rfl
theorem aw_49 : Cond.code ⟨"SceneTimes$Question", "<init>", "()V"⟩ prog_4_method_1_code 1 none ∈ AL := AL_t (tb_1 (List.mem_of_getElem? (i := 49) (rfl))) rfl
theorem aw_50 : Cond.methodLink "SceneTimes$Question" 3 ⟨"java/lang/Object", "<init>", "()V"⟩ ∈ AL := AL_t (tb_1 (List.mem_of_getElem? (i := 50) (by decide +kernel))) rfl
theorem aw_51 : Cond.classLink "SceneTimes$Question" 9 "SceneTimes$Note" ∈ AL := AL_t (tb_1 (List.mem_of_getElem? (i := 51) (by decide +kernel))) rfl
theorem aw_52 : Cond.fieldLink "SceneTimes$Question" 11 "SceneTimes$Question" "rows" "[LSceneTimes$Note;" ∈ AL := AL_t (tb_1 (List.mem_of_getElem? (i := 52) (by decide +kernel))) rfl
theorem aw_53 : Cond.fieldLink "SceneTimes" 156 "SceneTimes$Question" "rows" "[LSceneTimes$Note;" ∈ AL := AL_t (tb_1 (List.mem_of_getElem? (i := 53) (by decide +kernel))) rfl
theorem aw_54 : Cond.fieldLink "SceneTimes$Question" 25 "SceneTimes$Question" "size" "I" ∈ AL := AL_t (tb_1 (List.mem_of_getElem? (i := 54) (by decide +kernel))) rfl
theorem aw_55 : Cond.fieldLink "SceneTimes" 153 "SceneTimes$Question" "size" "I" ∈ AL := AL_t (tb_1 (List.mem_of_getElem? (i := 55) (by decide +kernel))) rfl
theorem aw_56 : Cond.fieldLink "SceneTimes$Question" 21 "SceneTimes$Question" "known" "I" ∈ AL := AL_t (tb_1 (List.mem_of_getElem? (i := 56) (by decide +kernel))) rfl
theorem aw_57 : Cond.fieldLink "SceneTimes" 160 "SceneTimes$Question" "known" "I" ∈ AL := AL_t (tb_1 (List.mem_of_getElem? (i := 57) (by decide +kernel))) rfl
theorem aw_58 : Cond.fieldLink "SceneTimes$Question" 17 "SceneTimes$Question" "asked" "Z" ∈ AL := AL_t (tb_1 (List.mem_of_getElem? (i := 58) (by decide +kernel))) rfl
theorem aw_59 : Cond.fieldLink "SceneTimes" 203 "SceneTimes$Question" "asked" "Z" ∈ AL := AL_t (tb_1 (List.mem_of_getElem? (i := 59) (by decide +kernel))) rfl
theorem aw_60 : Cond.laysFinal "SceneTimes$Question" "SceneTimes$Question" "rows" "[LSceneTimes$Note;" ∈ AL := AL_t (tb_1 (List.mem_of_getElem? (i := 60) (by decide +kernel))) rfl
theorem aw_61 : Cond.soleField "SceneTimes$Question" "rows" ∈ AL := AL_t (tb_1 (List.mem_of_getElem? (i := 61) (by decide +kernel))) rfl
theorem aw_62 : Cond.lays "SceneTimes$Question" "SceneTimes$Question" "size" "I" ∈ AL := AL_t (tb_1 (List.mem_of_getElem? (i := 62) (by decide +kernel))) rfl
theorem aw_63 : Cond.soleField "SceneTimes$Question" "size" ∈ AL := AL_t (tb_1 (List.mem_of_getElem? (i := 63) (by decide +kernel))) rfl
theorem aw_64 : Cond.lays "SceneTimes$Question" "SceneTimes$Question" "known" "I" ∈ AL := AL_t (tb_1 (List.mem_of_getElem? (i := 64) (by decide +kernel))) rfl
theorem aw_65 : Cond.soleField "SceneTimes$Question" "known" ∈ AL := AL_t (tb_1 (List.mem_of_getElem? (i := 65) (by decide +kernel))) rfl
theorem aw_66 : Cond.lays "SceneTimes$Question" "SceneTimes$Question" "asked" "Z" ∈ AL := AL_t (tb_1 (List.mem_of_getElem? (i := 66) (by decide +kernel))) rfl
theorem aw_67 : Cond.soleField "SceneTimes$Question" "asked" ∈ AL := AL_t (tb_1 (List.mem_of_getElem? (i := 67) (by decide +kernel))) rfl
theorem aw_68 : Cond.superclass "SceneTimes$Question" "java/lang/Object" ∈ AL := AL_t (tb_1 (List.mem_of_getElem? (i := 68) (by decide +kernel))) rfl
theorem aw_69 : Cond.classLink "SceneTimes" 23 "SceneTimes$Sheet" ∈ AL := AL_t (tb_1 (List.mem_of_getElem? (i := 69) (by decide +kernel))) rfl
theorem aw_70 : Cond.instantiable "SceneTimes$Sheet" 2 ∈ AL := AL_t (tb_1 (List.mem_of_getElem? (i := 70) (by decide +kernel))) rfl
theorem aw_72 : Cond.instanceMethod ⟨"SceneTimes$Sheet", "<init>", "()V"⟩ ∈ AL := AL_t (tb_1 (List.mem_of_getElem? (i := 72) (by decide +kernel))) rfl
theorem aw_73 : Cond.code ⟨"SceneTimes$Sheet", "<init>", "()V"⟩ prog_5_method_1_code 1 none ∈ AL := AL_t (tb_1 (List.mem_of_getElem? (i := 73) (rfl))) rfl
theorem aw_74 : Cond.methodLink "SceneTimes$Sheet" 3 ⟨"java/lang/Object", "<init>", "()V"⟩ ∈ AL := AL_t (tb_1 (List.mem_of_getElem? (i := 74) (by decide +kernel))) rfl
theorem aw_75 : Cond.fieldLink "SceneTimes$Sheet" 11 "SceneTimes$Sheet" "bytes" "[B" ∈ AL := AL_t (tb_1 (List.mem_of_getElem? (i := 75) (by decide +kernel))) rfl
theorem aw_76 : Cond.fieldLink "SceneTimes" 216 "SceneTimes$Sheet" "bytes" "[B" ∈ AL := AL_t (tb_1 (List.mem_of_getElem? (i := 76) (by decide +kernel))) rfl
theorem aw_77 : Cond.fieldLink "SceneTimes$Sheet" 15 "SceneTimes$Sheet" "size" "I" ∈ AL := AL_t (tb_1 (List.mem_of_getElem? (i := 77) (by decide +kernel))) rfl
theorem aw_78 : Cond.fieldLink "SceneTimes" 213 "SceneTimes$Sheet" "size" "I" ∈ AL := AL_t (tb_1 (List.mem_of_getElem? (i := 78) (by decide +kernel))) rfl
theorem aw_79 : Cond.laysFinal "SceneTimes$Sheet" "SceneTimes$Sheet" "bytes" "[B" ∈ AL := AL_t (tb_1 (List.mem_of_getElem? (i := 79) (by decide +kernel))) rfl
theorem aw_80 : Cond.soleField "SceneTimes$Sheet" "bytes" ∈ AL := AL_t (tb_1 (List.mem_of_getElem? (i := 80) (by decide +kernel))) rfl
theorem aw_81 : Cond.lays "SceneTimes$Sheet" "SceneTimes$Sheet" "size" "I" ∈ AL := AL_t (tb_1 (List.mem_of_getElem? (i := 81) (by decide +kernel))) rfl
theorem aw_82 : Cond.soleField "SceneTimes$Sheet" "size" ∈ AL := AL_t (tb_1 (List.mem_of_getElem? (i := 82) (by decide +kernel))) rfl
theorem aw_83 : Cond.superclass "SceneTimes$Sheet" "java/lang/Object" ∈ AL := AL_t (tb_1 (List.mem_of_getElem? (i := 83) (by decide +kernel))) rfl
theorem aw_84 : Cond.arrayClass .byte ∈ AL := AL_t (tb_1 (List.mem_of_getElem? (i := 84) (by decide +kernel))) rfl
theorem aw_85 : Cond.fieldLink "SceneTimes" 10 "SceneTimes" "line" "LSceneTimes$Line;" ∈ AL := AL_t (tb_1 (List.mem_of_getElem? (i := 85) (by decide +kernel))) rfl
theorem aw_86 : Cond.fieldLink "SceneTimes" 19 "SceneTimes" "question" "LSceneTimes$Question;" ∈ AL := AL_t (tb_1 (List.mem_of_getElem? (i := 86) (by decide +kernel))) rfl
theorem aw_87 : Cond.fieldLink "SceneTimes" 26 "SceneTimes" "sheet" "LSceneTimes$Sheet;" ∈ AL := AL_t (tb_1 (List.mem_of_getElem? (i := 87) (by decide +kernel))) rfl
theorem aw_88 : Cond.fieldLink "SceneTimes" 74 "SceneTimes" "second" "I" ∈ AL := AL_t (tb_1 (List.mem_of_getElem? (i := 88) (by decide +kernel))) rfl
theorem aw_89 : Cond.fieldLink "SceneTimes" 30 "SceneTimes" "writers" "I" ∈ AL := AL_t (tb_1 (List.mem_of_getElem? (i := 89) (by decide +kernel))) rfl
theorem aw_90 : Cond.fieldLink "SceneTimes" 115 "SceneTimes" "acts" "I" ∈ AL := AL_t (tb_1 (List.mem_of_getElem? (i := 90) (by decide +kernel))) rfl
theorem aw_91 : Cond.laysFinal "SceneTimes" "SceneTimes" "line" "LSceneTimes$Line;" ∈ AL := AL_t (tb_1 (List.mem_of_getElem? (i := 91) (by decide +kernel))) rfl
theorem aw_92 : Cond.soleField "SceneTimes" "line" ∈ AL := AL_t (tb_1 (List.mem_of_getElem? (i := 92) (by decide +kernel))) rfl
theorem aw_93 : Cond.laysFinal "SceneTimes" "SceneTimes" "question" "LSceneTimes$Question;" ∈ AL := AL_t (tb_1 (List.mem_of_getElem? (i := 93) (by decide +kernel))) rfl
theorem aw_94 : Cond.soleField "SceneTimes" "question" ∈ AL := AL_t (tb_1 (List.mem_of_getElem? (i := 94) (by decide +kernel))) rfl
theorem aw_95 : Cond.laysFinal "SceneTimes" "SceneTimes" "sheet" "LSceneTimes$Sheet;" ∈ AL := AL_t (tb_1 (List.mem_of_getElem? (i := 95) (by decide +kernel))) rfl
theorem aw_96 : Cond.soleField "SceneTimes" "sheet" ∈ AL := AL_t (tb_1 (List.mem_of_getElem? (i := 96) (by decide +kernel))) rfl
theorem aw_97 : Cond.lays "SceneTimes" "SceneTimes" "second" "I" ∈ AL := AL_t (tb_1 (List.mem_of_getElem? (i := 97) (by decide +kernel))) rfl
theorem aw_98 : Cond.soleField "SceneTimes" "second" ∈ AL := AL_t (tb_1 (List.mem_of_getElem? (i := 98) (by decide +kernel))) rfl
theorem aw_99 : Cond.lays "SceneTimes" "SceneTimes" "writers" "I" ∈ AL := AL_t (tb_1 (List.mem_of_getElem? (i := 99) (by decide +kernel))) rfl
theorem aw_100 : Cond.soleField "SceneTimes" "writers" ∈ AL := AL_t (tb_1 (List.mem_of_getElem? (i := 100) (by decide +kernel))) rfl
theorem aw_101 : Cond.lays "SceneTimes" "SceneTimes" "acts" "I" ∈ AL := AL_t (tb_1 (List.mem_of_getElem? (i := 101) (by decide +kernel))) rfl
theorem aw_102 : Cond.soleField "SceneTimes" "acts" ∈ AL := AL_t (tb_1 (List.mem_of_getElem? (i := 102) (by decide +kernel))) rfl
theorem aw_103 : Cond.superclass "SceneTimes" "java/lang/Object" ∈ AL := AL_t (tb_1 (List.mem_of_getElem? (i := 103) (by decide +kernel))) rfl
theorem aw_104 : Cond.methodLink "SceneTimesLaw" 68 ⟨"SceneTimesLaw", "writer", "(LSceneTimes;[J)I"⟩ ∈ AL := AL_t (tb_1 (List.mem_of_getElem? (i := 104) (by decide +kernel))) rfl
theorem aw_105 : Cond.static ⟨"SceneTimesLaw", "writer", "(LSceneTimes;[J)I"⟩ ∈ AL := AL_t (tb_1 (List.mem_of_getElem? (i := 105) (by decide +kernel))) rfl
theorem aw_106 : Cond.codeWith ⟨"SceneTimesLaw", "writer", "(LSceneTimes;[J)I"⟩ method_3_code 3 (some .int) [(0, 8, 11, 13)] ∈ AL := AL_t (tb_1 (List.mem_of_getElem? (i := 106) (rfl))) rfl
theorem aw_107 : Cond.classLink "SceneTimesLaw" 13 "java/lang/UnsupportedOperationException" ∈ AL := AL_t (tb_1 (List.mem_of_getElem? (i := 107) (by decide +kernel))) rfl
theorem aw_108 : Cond.methodLink "SceneTimesLaw" 7 ⟨"SceneTimes", "writer", "()I"⟩ ∈ AL := AL_t (tb_1 (List.mem_of_getElem? (i := 108) (by decide +kernel))) rfl
theorem aw_109 : Cond.instanceMethod ⟨"SceneTimes", "writer", "()I"⟩ ∈ AL := AL_t (tb_1 (List.mem_of_getElem? (i := 109) (by decide +kernel))) rfl
theorem aw_110 : Cond.selects "SceneTimes" ⟨"SceneTimes", "writer", "()I"⟩ ⟨"SceneTimes", "writer", "()I"⟩ ∈ AL := AL_t (tb_1 (List.mem_of_getElem? (i := 110) (by decide +kernel))) rfl
theorem aw_111 : Cond.code ⟨"SceneTimes", "writer", "()I"⟩ prog_1_method_2_code 1 (some .int) ∈ AL := AL_t (tb_1 (List.mem_of_getElem? (i := 111) (rfl))) rfl
theorem aw_112 : Cond.classLink "SceneTimes" 34 "java/lang/UnsupportedOperationException" ∈ AL := AL_t (tb_1 (List.mem_of_getElem? (i := 112) (by decide +kernel))) rfl
theorem aw_113 : Cond.instantiable "java/lang/UnsupportedOperationException" 6 ∈ AL := AL_t (tb_1 (List.mem_of_getElem? (i := 113) (by decide +kernel))) rfl
theorem aw_121 : Cond.selects "java/lang/UnsupportedOperationException" ⟨"java/lang/Throwable", "fillInStackTrace", "(I)Ljava/lang/Throwable;"⟩ ⟨"java/lang/Throwable", "fillInStackTrace", "(I)Ljava/lang/Throwable;"⟩ ∈ AL := AL_t (tb_1 (List.mem_of_getElem? (i := 121) (by decide +kernel))) rfl
theorem aw_122 : Cond.selects "java/lang/UnsupportedOperationException" ⟨"java/lang/Throwable", "fillInStackTrace", "()Ljava/lang/Throwable;"⟩ ⟨"java/lang/Throwable", "fillInStackTrace", "()Ljava/lang/Throwable;"⟩ ∈ AL := AL_t (tb_1 (List.mem_of_getElem? (i := 122) (by decide +kernel))) rfl
theorem aw_123 : Cond.lays "java/lang/UnsupportedOperationException" "java/lang/Throwable" "cause" "Ljava/lang/Throwable;" ∈ AL := AL_t (tb_1 (List.mem_of_getElem? (i := 123) (by decide +kernel))) rfl
theorem aw_124 : Cond.lays "java/lang/Throwable" "java/lang/Throwable" "cause" "Ljava/lang/Throwable;" ∈ AL := AL_t (tb_1 (List.mem_of_getElem? (i := 124) (by decide +kernel))) rfl
theorem aw_125 : Cond.lays "java/lang/UnsupportedOperationException" "java/lang/Throwable" "stackTrace" "[Ljava/lang/StackTraceElement;" ∈ AL := AL_t (tb_1 (List.mem_of_getElem? (i := 125) (by decide +kernel))) rfl
theorem aw_126 : Cond.lays "java/lang/Throwable" "java/lang/Throwable" "stackTrace" "[Ljava/lang/StackTraceElement;" ∈ AL := AL_t (tb_1 (List.mem_of_getElem? (i := 126) (by decide +kernel))) rfl
theorem aw_127 : Cond.lays "java/lang/UnsupportedOperationException" "java/lang/Throwable" "suppressedExceptions" "Ljava/util/List;" ∈ AL := AL_t (tb_1 (List.mem_of_getElem? (i := 127) (by decide +kernel))) rfl
theorem aw_128 : Cond.lays "java/lang/Throwable" "java/lang/Throwable" "suppressedExceptions" "Ljava/util/List;" ∈ AL := AL_t (tb_1 (List.mem_of_getElem? (i := 128) (by decide +kernel))) rfl
theorem aw_129 : Cond.lays "java/lang/UnsupportedOperationException" "java/lang/Throwable" "detailMessage" "Ljava/lang/String;" ∈ AL := AL_t (tb_1 (List.mem_of_getElem? (i := 129) (by decide +kernel))) rfl
theorem aw_130 : Cond.lays "java/lang/Throwable" "java/lang/Throwable" "detailMessage" "Ljava/lang/String;" ∈ AL := AL_t (tb_1 (List.mem_of_getElem? (i := 130) (by decide +kernel))) rfl
theorem aw_131 : Cond.lays "java/lang/UnsupportedOperationException" "java/lang/Throwable" "backtrace" "Ljava/lang/Object;" ∈ AL := AL_t (tb_1 (List.mem_of_getElem? (i := 131) (by decide +kernel))) rfl
theorem aw_132 : Cond.lays "java/lang/Throwable" "java/lang/Throwable" "backtrace" "Ljava/lang/Object;" ∈ AL := AL_t (tb_1 (List.mem_of_getElem? (i := 132) (by decide +kernel))) rfl
theorem aw_133 : Cond.fieldLink "java/lang/Throwable" 198 "java/lang/Throwable" "backtrace" "Ljava/lang/Object;" ∈ AL := AL_t (tb_1 (List.mem_of_getElem? (i := 133) (by decide +kernel))) rfl
theorem aw_134 : Cond.superclass "java/lang/Throwable" "java/lang/Object" ∈ AL := AL_t (tb_1 (List.mem_of_getElem? (i := 134) (by decide +kernel))) rfl
theorem aw_135 : Cond.instanceMethod ⟨"java/lang/Throwable", "<init>", "()V"⟩ ∈ AL := AL_t (tb_1 (List.mem_of_getElem? (i := 135) (by decide +kernel))) rfl
theorem aw_136 : Cond.code ⟨"java/lang/Throwable", "<init>", "()V"⟩ prog_16_method_1_code 1 none ∈ AL := AL_t (tb_1 (List.mem_of_getElem? (i := 136) (rfl))) rfl
theorem aw_137 : Cond.methodLink "java/lang/Throwable" 1 ⟨"java/lang/Object", "<init>", "()V"⟩ ∈ AL := AL_t (tb_1 (List.mem_of_getElem? (i := 137) (by decide +kernel))) rfl
theorem aw_138 : Cond.fieldLink "java/lang/Throwable" 13 "java/lang/Throwable" "UNASSIGNED_STACK" "[Ljava/lang/StackTraceElement;" ∈ AL := AL_t (tb_1 (List.mem_of_getElem? (i := 138) (by decide +kernel))) rfl
theorem aw_140 : Cond.fieldLink "java/lang/Throwable" 20 "java/lang/Throwable" "SUPPRESSED_SENTINEL" "Ljava/util/List;" ∈ AL := AL_t (tb_1 (List.mem_of_getElem? (i := 140) (by decide +kernel))) rfl
theorem aw_142 : Cond.methodLink "java/lang/Throwable" 27 ⟨"java/lang/Throwable", "fillInStackTrace", "()Ljava/lang/Throwable;"⟩ ∈ AL := AL_t (tb_1 (List.mem_of_getElem? (i := 142) (by decide +kernel))) rfl
theorem aw_143 : Cond.instanceMethod ⟨"java/lang/Throwable", "fillInStackTrace", "()Ljava/lang/Throwable;"⟩ ∈ AL := AL_t (tb_1 (List.mem_of_getElem? (i := 143) (by decide +kernel))) rfl
theorem aw_144 : Cond.sameMethod "java/lang/Throwable" "java/lang/Throwable" "fillInStackTrace" "()Ljava/lang/Throwable;" ∈ AL := AL_t (tb_1 (List.mem_of_getElem? (i := 144) (by decide +kernel))) rfl
theorem aw_145 : Cond.selects "java/lang/IllegalArgumentException" ⟨"java/lang/Throwable", "fillInStackTrace", "()Ljava/lang/Throwable;"⟩ ⟨"java/lang/Throwable", "fillInStackTrace", "()Ljava/lang/Throwable;"⟩ ∈ AL := AL_t (tb_1 (List.mem_of_getElem? (i := 145) (by decide +kernel))) rfl
theorem aw_146 : Cond.selects "java/lang/IllegalStateException" ⟨"java/lang/Throwable", "fillInStackTrace", "()Ljava/lang/Throwable;"⟩ ⟨"java/lang/Throwable", "fillInStackTrace", "()Ljava/lang/Throwable;"⟩ ∈ AL := AL_t (tb_1 (List.mem_of_getElem? (i := 146) (by decide +kernel))) rfl
theorem aw_147 : Cond.selects "java/lang/IndexOutOfBoundsException" ⟨"java/lang/Throwable", "fillInStackTrace", "()Ljava/lang/Throwable;"⟩ ⟨"java/lang/Throwable", "fillInStackTrace", "()Ljava/lang/Throwable;"⟩ ∈ AL := AL_t (tb_1 (List.mem_of_getElem? (i := 147) (by decide +kernel))) rfl
theorem aw_148 : Cond.codeSync ⟨"java/lang/Throwable", "fillInStackTrace", "()Ljava/lang/Throwable;"⟩ prog_16_method_18_code 1 (some (.object "java/lang/Throwable")) ∈ AL := AL_t (tb_1 (List.mem_of_getElem? (i := 148) (rfl))) rfl
theorem aw_149 : Cond.methodLink "java/lang/Throwable" 202 ⟨"java/lang/Throwable", "fillInStackTrace", "(I)Ljava/lang/Throwable;"⟩ ∈ AL := AL_t (tb_1 (List.mem_of_getElem? (i := 149) (by decide +kernel))) rfl
theorem aw_151 : Cond.instanceMethod ⟨"java/lang/Throwable", "fillInStackTrace", "(I)Ljava/lang/Throwable;"⟩ ∈ AL := AL_t (tb_1 (List.mem_of_getElem? (i := 151) (by decide +kernel))) rfl
theorem aw_152 : Cond.instantiable "java/lang/Throwable" 6 ∈ AL := AL_t (tb_1 (List.mem_of_getElem? (i := 152) (by decide +kernel))) rfl
theorem aw_153 : Cond.native ⟨"java/lang/Throwable", "fillInStackTrace", "(I)Ljava/lang/Throwable;"⟩ ∈ AL := AL_t (tb_1 (List.mem_of_getElem? (i := 153) (by decide +kernel))) rfl
theorem aw_155 : Cond.methodLink "SceneTimes" 38 ⟨"java/lang/UnsupportedOperationException", "<init>", "(Ljava/lang/String;)V"⟩ ∈ AL := AL_t (tb_1 (List.mem_of_getElem? (i := 155) (by decide +kernel))) rfl
theorem aw_156 : Cond.instanceMethod ⟨"java/lang/UnsupportedOperationException", "<init>", "(Ljava/lang/String;)V"⟩ ∈ AL := AL_t (tb_1 (List.mem_of_getElem? (i := 156) (by decide +kernel))) rfl
theorem aw_157 : Cond.code ⟨"java/lang/UnsupportedOperationException", "<init>", "(Ljava/lang/String;)V"⟩ prog_17_method_2_code 2 none ∈ AL := AL_t (tb_1 (List.mem_of_getElem? (i := 157) (rfl))) rfl
theorem aw_158 : Cond.methodLink "java/lang/UnsupportedOperationException" 7 ⟨"java/lang/RuntimeException", "<init>", "(Ljava/lang/String;)V"⟩ ∈ AL := AL_t (tb_1 (List.mem_of_getElem? (i := 158) (by decide +kernel))) rfl
theorem aw_159 : Cond.instanceMethod ⟨"java/lang/RuntimeException", "<init>", "(Ljava/lang/String;)V"⟩ ∈ AL := AL_t (tb_1 (List.mem_of_getElem? (i := 159) (by decide +kernel))) rfl
theorem aw_160 : Cond.code ⟨"java/lang/RuntimeException", "<init>", "(Ljava/lang/String;)V"⟩ prog_14_method_2_code 2 none ∈ AL := AL_t (tb_1 (List.mem_of_getElem? (i := 160) (rfl))) rfl
theorem aw_161 : Cond.methodLink "java/lang/RuntimeException" 7 ⟨"java/lang/Exception", "<init>", "(Ljava/lang/String;)V"⟩ ∈ AL := AL_t (tb_1 (List.mem_of_getElem? (i := 161) (by decide +kernel))) rfl
theorem aw_162 : Cond.instanceMethod ⟨"java/lang/Exception", "<init>", "(Ljava/lang/String;)V"⟩ ∈ AL := AL_t (tb_1 (List.mem_of_getElem? (i := 162) (by decide +kernel))) rfl
theorem aw_163 : Cond.code ⟨"java/lang/Exception", "<init>", "(Ljava/lang/String;)V"⟩ prog_9_method_2_code 2 none ∈ AL := AL_t (tb_1 (List.mem_of_getElem? (i := 163) (rfl))) rfl
theorem aw_164 : Cond.methodLink "java/lang/Exception" 7 ⟨"java/lang/Throwable", "<init>", "(Ljava/lang/String;)V"⟩ ∈ AL := AL_t (tb_1 (List.mem_of_getElem? (i := 164) (by decide +kernel))) rfl
theorem aw_165 : Cond.instanceMethod ⟨"java/lang/Throwable", "<init>", "(Ljava/lang/String;)V"⟩ ∈ AL := AL_t (tb_1 (List.mem_of_getElem? (i := 165) (by decide +kernel))) rfl
theorem aw_166 : Cond.code ⟨"java/lang/Throwable", "<init>", "(Ljava/lang/String;)V"⟩ prog_16_method_2_code 2 none ∈ AL := AL_t (tb_1 (List.mem_of_getElem? (i := 166) (rfl))) rfl
theorem aw_167 : Cond.fieldLink "java/lang/Throwable" 198 "java/lang/Throwable" "backtrace" "Ljava/lang/Object;" ∈ AL := AL_t (tb_1 (List.mem_of_getElem? (i := 167) (by decide +kernel))) rfl
theorem aw_168 : Cond.fieldLink "java/lang/Throwable" 31 "java/lang/Throwable" "detailMessage" "Ljava/lang/String;" ∈ AL := AL_t (tb_1 (List.mem_of_getElem? (i := 168) (by decide +kernel))) rfl
theorem aw_169 : Cond.fieldLink "java/lang/Throwable" 7 "java/lang/Throwable" "cause" "Ljava/lang/Throwable;" ∈ AL := AL_t (tb_1 (List.mem_of_getElem? (i := 169) (by decide +kernel))) rfl
theorem aw_170 : Cond.fieldLink "java/lang/Throwable" 17 "java/lang/Throwable" "stackTrace" "[Ljava/lang/StackTraceElement;" ∈ AL := AL_t (tb_1 (List.mem_of_getElem? (i := 170) (by decide +kernel))) rfl
theorem aw_171 : Cond.fieldLink "java/lang/Throwable" 24 "java/lang/Throwable" "suppressedExceptions" "Ljava/util/List;" ∈ AL := AL_t (tb_1 (List.mem_of_getElem? (i := 171) (by decide +kernel))) rfl
theorem aw_172 : Cond.soleField "java/lang/Throwable" "backtrace" ∈ AL := AL_t (tb_1 (List.mem_of_getElem? (i := 172) (by decide +kernel))) rfl
theorem aw_173 : Cond.soleField "java/lang/Throwable" "detailMessage" ∈ AL := AL_t (tb_1 (List.mem_of_getElem? (i := 173) (by decide +kernel))) rfl
theorem aw_174 : Cond.soleField "java/lang/Throwable" "cause" ∈ AL := AL_t (tb_1 (List.mem_of_getElem? (i := 174) (by decide +kernel))) rfl
theorem aw_175 : Cond.soleField "java/lang/Throwable" "stackTrace" ∈ AL := AL_t (tb_1 (List.mem_of_getElem? (i := 175) (by decide +kernel))) rfl
theorem aw_176 : Cond.lays "java/lang/UnsupportedOperationException" "java/lang/Throwable" "depth" "I" ∈ AL := AL_t (tb_1 (List.mem_of_getElem? (i := 176) (by decide +kernel))) rfl
theorem aw_177 : Cond.soleField "java/lang/Throwable" "depth" ∈ AL := AL_t (tb_1 (List.mem_of_getElem? (i := 177) (by decide +kernel))) rfl
theorem aw_178 : Cond.soleField "java/lang/Throwable" "suppressedExceptions" ∈ AL := AL_t (tb_1 (List.mem_of_getElem? (i := 178) (by decide +kernel))) rfl
theorem aw_179 : Cond.superclass "java/lang/UnsupportedOperationException" "java/lang/RuntimeException" ∈ AL := AL_t (tb_1 (List.mem_of_getElem? (i := 179) (by decide +kernel))) rfl
theorem aw_180 : Cond.methodLink "SceneTimesLaw" 77 ⟨"SceneTimesLaw", "note", "(LSceneTimes;IIIII[J)I"⟩ ∈ AL := AL_t (tb_1 (List.mem_of_getElem? (i := 180) (by decide +kernel))) rfl
theorem aw_181 : Cond.static ⟨"SceneTimesLaw", "note", "(LSceneTimes;IIIII[J)I"⟩ ∈ AL := AL_t (tb_1 (List.mem_of_getElem? (i := 181) (by decide +kernel))) rfl
theorem aw_182 : Cond.codeWith ⟨"SceneTimesLaw", "note", "(LSceneTimes;IIIII[J)I"⟩ method_4_code 8 (some .int) [(0, 16, 19, 19), (0, 16, 23, 21), (0, 16, 27, 13)] ∈ AL := AL_t (tb_1 (List.mem_of_getElem? (i := 182) (rfl))) rfl
theorem aw_183 : Cond.classLink "SceneTimesLaw" 19 "java/lang/IllegalArgumentException" ∈ AL := AL_t (tb_1 (List.mem_of_getElem? (i := 183) (by decide +kernel))) rfl
theorem aw_184 : Cond.classLink "SceneTimesLaw" 21 "java/lang/IndexOutOfBoundsException" ∈ AL := AL_t (tb_1 (List.mem_of_getElem? (i := 184) (by decide +kernel))) rfl
theorem aw_185 : Cond.methodLink "SceneTimesLaw" 15 ⟨"SceneTimes", "note", "(IIIII)I"⟩ ∈ AL := AL_t (tb_1 (List.mem_of_getElem? (i := 185) (by decide +kernel))) rfl
theorem aw_186 : Cond.instanceMethod ⟨"SceneTimes", "note", "(IIIII)I"⟩ ∈ AL := AL_t (tb_1 (List.mem_of_getElem? (i := 186) (by decide +kernel))) rfl
theorem aw_187 : Cond.selects "SceneTimes" ⟨"SceneTimes", "note", "(IIIII)I"⟩ ⟨"SceneTimes", "note", "(IIIII)I"⟩ ∈ AL := AL_t (tb_1 (List.mem_of_getElem? (i := 187) (by decide +kernel))) rfl
theorem aw_188 : Cond.code ⟨"SceneTimes", "note", "(IIIII)I"⟩ prog_1_method_3_code 7 (some .int) ∈ AL := AL_t (tb_1 (List.mem_of_getElem? (i := 188) (rfl))) rfl
theorem aw_189 : Cond.methodLink "SceneTimes" 41 ⟨"SceneTimes", "isWriter", "(I)Z"⟩ ∈ AL := AL_t (tb_1 (List.mem_of_getElem? (i := 189) (by decide +kernel))) rfl
theorem aw_191 : Cond.instanceMethod ⟨"SceneTimes", "isWriter", "(I)Z"⟩ ∈ AL := AL_t (tb_1 (List.mem_of_getElem? (i := 191) (by decide +kernel))) rfl
theorem aw_192 : Cond.code ⟨"SceneTimes", "isWriter", "(I)Z"⟩ prog_1_method_16_code 2 (some .boolean) ∈ AL := AL_t (tb_1 (List.mem_of_getElem? (i := 192) (rfl))) rfl
theorem aw_193 : Cond.methodLink "SceneTimes" 45 ⟨"SceneTimes", "isKind", "(I)Z"⟩ ∈ AL := AL_t (tb_1 (List.mem_of_getElem? (i := 193) (by decide +kernel))) rfl
theorem aw_194 : Cond.static ⟨"SceneTimes", "isKind", "(I)Z"⟩ ∈ AL := AL_t (tb_1 (List.mem_of_getElem? (i := 194) (by decide +kernel))) rfl
theorem aw_195 : Cond.code ⟨"SceneTimes", "isKind", "(I)Z"⟩ prog_1_method_17_code 1 (some .boolean) ∈ AL := AL_t (tb_1 (List.mem_of_getElem? (i := 195) (rfl))) rfl
theorem aw_196 : Cond.methodLink "SceneTimes" 48 ⟨"SceneTimes", "isSector", "(I)Z"⟩ ∈ AL := AL_t (tb_1 (List.mem_of_getElem? (i := 196) (by decide +kernel))) rfl
theorem aw_197 : Cond.static ⟨"SceneTimes", "isSector", "(I)Z"⟩ ∈ AL := AL_t (tb_1 (List.mem_of_getElem? (i := 197) (by decide +kernel))) rfl
theorem aw_198 : Cond.code ⟨"SceneTimes", "isSector", "(I)Z"⟩ prog_1_method_18_code 1 (some .boolean) ∈ AL := AL_t (tb_1 (List.mem_of_getElem? (i := 198) (rfl))) rfl
theorem aw_199 : Cond.classLink "SceneTimes" 51 "java/lang/IllegalArgumentException" ∈ AL := AL_t (tb_1 (List.mem_of_getElem? (i := 199) (by decide +kernel))) rfl
theorem aw_200 : Cond.instantiable "java/lang/IllegalArgumentException" 6 ∈ AL := AL_t (tb_1 (List.mem_of_getElem? (i := 200) (by decide +kernel))) rfl
theorem aw_202 : Cond.selects "java/lang/IllegalArgumentException" ⟨"java/lang/Throwable", "fillInStackTrace", "(I)Ljava/lang/Throwable;"⟩ ⟨"java/lang/Throwable", "fillInStackTrace", "(I)Ljava/lang/Throwable;"⟩ ∈ AL := AL_t (tb_1 (List.mem_of_getElem? (i := 202) (by decide +kernel))) rfl
theorem aw_203 : Cond.lays "java/lang/IllegalArgumentException" "java/lang/Throwable" "cause" "Ljava/lang/Throwable;" ∈ AL := AL_t (tb_1 (List.mem_of_getElem? (i := 203) (by decide +kernel))) rfl
theorem aw_204 : Cond.lays "java/lang/IllegalArgumentException" "java/lang/Throwable" "stackTrace" "[Ljava/lang/StackTraceElement;" ∈ AL := AL_t (tb_1 (List.mem_of_getElem? (i := 204) (by decide +kernel))) rfl
theorem aw_205 : Cond.lays "java/lang/IllegalArgumentException" "java/lang/Throwable" "suppressedExceptions" "Ljava/util/List;" ∈ AL := AL_t (tb_1 (List.mem_of_getElem? (i := 205) (by decide +kernel))) rfl
theorem aw_206 : Cond.lays "java/lang/IllegalArgumentException" "java/lang/Throwable" "detailMessage" "Ljava/lang/String;" ∈ AL := AL_t (tb_1 (List.mem_of_getElem? (i := 206) (by decide +kernel))) rfl
theorem aw_207 : Cond.lays "java/lang/IllegalArgumentException" "java/lang/Throwable" "backtrace" "Ljava/lang/Object;" ∈ AL := AL_t (tb_1 (List.mem_of_getElem? (i := 207) (by decide +kernel))) rfl
theorem aw_209 : Cond.methodLink "SceneTimes" 55 ⟨"java/lang/IllegalArgumentException", "<init>", "(Ljava/lang/String;)V"⟩ ∈ AL := AL_t (tb_1 (List.mem_of_getElem? (i := 209) (by decide +kernel))) rfl
theorem aw_210 : Cond.instanceMethod ⟨"java/lang/IllegalArgumentException", "<init>", "(Ljava/lang/String;)V"⟩ ∈ AL := AL_t (tb_1 (List.mem_of_getElem? (i := 210) (by decide +kernel))) rfl
theorem aw_211 : Cond.code ⟨"java/lang/IllegalArgumentException", "<init>", "(Ljava/lang/String;)V"⟩ prog_10_method_2_code 2 none ∈ AL := AL_t (tb_1 (List.mem_of_getElem? (i := 211) (rfl))) rfl
theorem aw_212 : Cond.methodLink "java/lang/IllegalArgumentException" 7 ⟨"java/lang/RuntimeException", "<init>", "(Ljava/lang/String;)V"⟩ ∈ AL := AL_t (tb_1 (List.mem_of_getElem? (i := 212) (by decide +kernel))) rfl
theorem aw_213 : Cond.lays "java/lang/IllegalArgumentException" "java/lang/Throwable" "depth" "I" ∈ AL := AL_t (tb_1 (List.mem_of_getElem? (i := 213) (by decide +kernel))) rfl
theorem aw_214 : Cond.superclass "java/lang/IllegalArgumentException" "java/lang/RuntimeException" ∈ AL := AL_t (tb_1 (List.mem_of_getElem? (i := 214) (by decide +kernel))) rfl
theorem aw_215 : Cond.methodLink "SceneTimes" 56 ⟨"SceneTimes", "hasCome", "(I)Z"⟩ ∈ AL := AL_t (tb_1 (List.mem_of_getElem? (i := 215) (by decide +kernel))) rfl
theorem aw_217 : Cond.instanceMethod ⟨"SceneTimes", "hasCome", "(I)Z"⟩ ∈ AL := AL_t (tb_1 (List.mem_of_getElem? (i := 217) (by decide +kernel))) rfl
theorem aw_218 : Cond.code ⟨"SceneTimes", "hasCome", "(I)Z"⟩ prog_1_method_20_code 2 (some .boolean) ∈ AL := AL_t (tb_1 (List.mem_of_getElem? (i := 218) (rfl))) rfl
theorem aw_219 : Cond.methodLink "SceneTimes" 59 ⟨"SceneTimes", "isValue", "(I)Z"⟩ ∈ AL := AL_t (tb_1 (List.mem_of_getElem? (i := 219) (by decide +kernel))) rfl
theorem aw_220 : Cond.static ⟨"SceneTimes", "isValue", "(I)Z"⟩ ∈ AL := AL_t (tb_1 (List.mem_of_getElem? (i := 220) (by decide +kernel))) rfl
theorem aw_221 : Cond.code ⟨"SceneTimes", "isValue", "(I)Z"⟩ prog_1_method_19_code 1 (some .boolean) ∈ AL := AL_t (tb_1 (List.mem_of_getElem? (i := 221) (rfl))) rfl
theorem aw_222 : Cond.classLink "SceneTimes" 62 "java/lang/IndexOutOfBoundsException" ∈ AL := AL_t (tb_1 (List.mem_of_getElem? (i := 222) (by decide +kernel))) rfl
theorem aw_223 : Cond.instantiable "java/lang/IndexOutOfBoundsException" 6 ∈ AL := AL_t (tb_1 (List.mem_of_getElem? (i := 223) (by decide +kernel))) rfl
theorem aw_225 : Cond.selects "java/lang/IndexOutOfBoundsException" ⟨"java/lang/Throwable", "fillInStackTrace", "(I)Ljava/lang/Throwable;"⟩ ⟨"java/lang/Throwable", "fillInStackTrace", "(I)Ljava/lang/Throwable;"⟩ ∈ AL := AL_t (tb_1 (List.mem_of_getElem? (i := 225) (by decide +kernel))) rfl
theorem aw_226 : Cond.lays "java/lang/IndexOutOfBoundsException" "java/lang/Throwable" "cause" "Ljava/lang/Throwable;" ∈ AL := AL_t (tb_1 (List.mem_of_getElem? (i := 226) (by decide +kernel))) rfl
theorem aw_227 : Cond.lays "java/lang/IndexOutOfBoundsException" "java/lang/Throwable" "stackTrace" "[Ljava/lang/StackTraceElement;" ∈ AL := AL_t (tb_1 (List.mem_of_getElem? (i := 227) (by decide +kernel))) rfl
theorem aw_228 : Cond.lays "java/lang/IndexOutOfBoundsException" "java/lang/Throwable" "suppressedExceptions" "Ljava/util/List;" ∈ AL := AL_t (tb_1 (List.mem_of_getElem? (i := 228) (by decide +kernel))) rfl
theorem aw_229 : Cond.lays "java/lang/IndexOutOfBoundsException" "java/lang/Throwable" "detailMessage" "Ljava/lang/String;" ∈ AL := AL_t (tb_1 (List.mem_of_getElem? (i := 229) (by decide +kernel))) rfl
theorem aw_230 : Cond.lays "java/lang/IndexOutOfBoundsException" "java/lang/Throwable" "backtrace" "Ljava/lang/Object;" ∈ AL := AL_t (tb_1 (List.mem_of_getElem? (i := 230) (by decide +kernel))) rfl
theorem aw_232 : Cond.methodLink "SceneTimes" 66 ⟨"java/lang/IndexOutOfBoundsException", "<init>", "(Ljava/lang/String;)V"⟩ ∈ AL := AL_t (tb_1 (List.mem_of_getElem? (i := 232) (by decide +kernel))) rfl
theorem aw_233 : Cond.instanceMethod ⟨"java/lang/IndexOutOfBoundsException", "<init>", "(Ljava/lang/String;)V"⟩ ∈ AL := AL_t (tb_1 (List.mem_of_getElem? (i := 233) (by decide +kernel))) rfl
theorem aw_234 : Cond.code ⟨"java/lang/IndexOutOfBoundsException", "<init>", "(Ljava/lang/String;)V"⟩ prog_12_method_2_code 2 none ∈ AL := AL_t (tb_1 (List.mem_of_getElem? (i := 234) (rfl))) rfl
theorem aw_235 : Cond.methodLink "java/lang/IndexOutOfBoundsException" 7 ⟨"java/lang/RuntimeException", "<init>", "(Ljava/lang/String;)V"⟩ ∈ AL := AL_t (tb_1 (List.mem_of_getElem? (i := 235) (by decide +kernel))) rfl
theorem aw_236 : Cond.lays "java/lang/IndexOutOfBoundsException" "java/lang/Throwable" "depth" "I" ∈ AL := AL_t (tb_1 (List.mem_of_getElem? (i := 236) (by decide +kernel))) rfl
theorem aw_237 : Cond.superclass "java/lang/IndexOutOfBoundsException" "java/lang/RuntimeException" ∈ AL := AL_t (tb_1 (List.mem_of_getElem? (i := 237) (by decide +kernel))) rfl
theorem aw_239 : Cond.classLink "SceneTimes" 72 "SceneTimes$Note" ∈ AL := AL_t (tb_1 (List.mem_of_getElem? (i := 239) (by decide +kernel))) rfl
theorem aw_240 : Cond.instantiable "SceneTimes$Note" 10 ∈ AL := AL_t (tb_2 (List.mem_of_getElem? (i := 0) (by decide +kernel))) rfl
theorem aw_241 : Cond.methodLink "SceneTimes" 77 ⟨"SceneTimes$Note", "<init>", "(IIIIIII)V"⟩ ∈ AL := AL_t (tb_2 (List.mem_of_getElem? (i := 1) (by decide +kernel))) rfl
theorem aw_242 : Cond.instanceMethod ⟨"SceneTimes$Note", "<init>", "(IIIIIII)V"⟩ ∈ AL := AL_t (tb_2 (List.mem_of_getElem? (i := 2) (by decide +kernel))) rfl
theorem aw_243 : Cond.code ⟨"SceneTimes$Note", "<init>", "(IIIIIII)V"⟩ prog_3_method_1_code 8 none ∈ AL := AL_t (tb_2 (List.mem_of_getElem? (i := 3) (rfl))) rfl
theorem aw_244 : Cond.methodLink "SceneTimes$Note" 3 ⟨"java/lang/Object", "<init>", "()V"⟩ ∈ AL := AL_t (tb_2 (List.mem_of_getElem? (i := 4) (by decide +kernel))) rfl
theorem aw_245 : Cond.classLink "SceneTimes$Note" 27 "SceneTimes$State" ∈ AL := AL_t (tb_2 (List.mem_of_getElem? (i := 5) (by decide +kernel))) rfl
theorem aw_246 : Cond.instantiable "SceneTimes$State" 4 ∈ AL := AL_t (tb_2 (List.mem_of_getElem? (i := 6) (by decide +kernel))) rfl
theorem aw_247 : Cond.methodLink "SceneTimes$Note" 29 ⟨"SceneTimes$State", "<init>", "(IIZLSceneTimes$State;)V"⟩ ∈ AL := AL_t (tb_2 (List.mem_of_getElem? (i := 7) (by decide +kernel))) rfl
theorem aw_248 : Cond.instanceMethod ⟨"SceneTimes$State", "<init>", "(IIZLSceneTimes$State;)V"⟩ ∈ AL := AL_t (tb_2 (List.mem_of_getElem? (i := 8) (by decide +kernel))) rfl
theorem aw_249 : Cond.code ⟨"SceneTimes$State", "<init>", "(IIZLSceneTimes$State;)V"⟩ prog_6_method_1_code 5 none ∈ AL := AL_t (tb_2 (List.mem_of_getElem? (i := 9) (rfl))) rfl
theorem aw_250 : Cond.methodLink "SceneTimes$State" 1 ⟨"java/lang/Object", "<init>", "()V"⟩ ∈ AL := AL_t (tb_2 (List.mem_of_getElem? (i := 10) (by decide +kernel))) rfl
theorem aw_251 : Cond.fieldLink "SceneTimes$State" 7 "SceneTimes$State" "from" "I" ∈ AL := AL_t (tb_2 (List.mem_of_getElem? (i := 11) (by decide +kernel))) rfl
theorem aw_252 : Cond.fieldLink "SceneTimes$Note" 59 "SceneTimes$State" "from" "I" ∈ AL := AL_t (tb_2 (List.mem_of_getElem? (i := 12) (by decide +kernel))) rfl
theorem aw_253 : Cond.fieldLink "SceneTimes$Line" 48 "SceneTimes$State" "from" "I" ∈ AL := AL_t (tb_2 (List.mem_of_getElem? (i := 13) (by decide +kernel))) rfl
theorem aw_254 : Cond.fieldLink "SceneTimes" 142 "SceneTimes$State" "from" "I" ∈ AL := AL_t (tb_2 (List.mem_of_getElem? (i := 14) (by decide +kernel))) rfl
theorem aw_255 : Cond.fieldLink "SceneTimes$State" 13 "SceneTimes$State" "value" "I" ∈ AL := AL_t (tb_2 (List.mem_of_getElem? (i := 15) (by decide +kernel))) rfl
theorem aw_256 : Cond.fieldLink "SceneTimes$Sheet" 45 "SceneTimes$State" "value" "I" ∈ AL := AL_t (tb_2 (List.mem_of_getElem? (i := 16) (by decide +kernel))) rfl
theorem aw_257 : Cond.fieldLink "SceneTimes$Note" 56 "SceneTimes$State" "value" "I" ∈ AL := AL_t (tb_2 (List.mem_of_getElem? (i := 17) (by decide +kernel))) rfl
theorem aw_258 : Cond.fieldLink "SceneTimes" 167 "SceneTimes$State" "value" "I" ∈ AL := AL_t (tb_2 (List.mem_of_getElem? (i := 18) (by decide +kernel))) rfl
theorem aw_259 : Cond.fieldLink "SceneTimes$State" 16 "SceneTimes$State" "struck" "Z" ∈ AL := AL_t (tb_2 (List.mem_of_getElem? (i := 19) (by decide +kernel))) rfl
theorem aw_260 : Cond.fieldLink "SceneTimes$Note" 46 "SceneTimes$State" "struck" "Z" ∈ AL := AL_t (tb_2 (List.mem_of_getElem? (i := 20) (by decide +kernel))) rfl
theorem aw_261 : Cond.fieldLink "SceneTimes$Sheet" 56 "SceneTimes$State" "struck" "Z" ∈ AL := AL_t (tb_2 (List.mem_of_getElem? (i := 21) (by decide +kernel))) rfl
theorem aw_262 : Cond.fieldLink "SceneTimes" 97 "SceneTimes$State" "struck" "Z" ∈ AL := AL_t (tb_2 (List.mem_of_getElem? (i := 22) (by decide +kernel))) rfl
theorem aw_263 : Cond.fieldLink "SceneTimes$Line" 39 "SceneTimes$State" "struck" "Z" ∈ AL := AL_t (tb_2 (List.mem_of_getElem? (i := 23) (by decide +kernel))) rfl
theorem aw_264 : Cond.fieldLink "SceneTimes$State" 20 "SceneTimes$State" "earlier" "LSceneTimes$State;" ∈ AL := AL_t (tb_2 (List.mem_of_getElem? (i := 24) (by decide +kernel))) rfl
theorem aw_265 : Cond.fieldLink "SceneTimes$Note" 62 "SceneTimes$State" "earlier" "LSceneTimes$State;" ∈ AL := AL_t (tb_2 (List.mem_of_getElem? (i := 25) (by decide +kernel))) rfl
theorem aw_266 : Cond.laysFinal "SceneTimes$State" "SceneTimes$State" "from" "I" ∈ AL := AL_t (tb_2 (List.mem_of_getElem? (i := 26) (by decide +kernel))) rfl
theorem aw_267 : Cond.soleField "SceneTimes$State" "from" ∈ AL := AL_t (tb_2 (List.mem_of_getElem? (i := 27) (by decide +kernel))) rfl
theorem aw_268 : Cond.laysFinal "SceneTimes$State" "SceneTimes$State" "value" "I" ∈ AL := AL_t (tb_2 (List.mem_of_getElem? (i := 28) (by decide +kernel))) rfl
theorem aw_269 : Cond.soleField "SceneTimes$State" "value" ∈ AL := AL_t (tb_2 (List.mem_of_getElem? (i := 29) (by decide +kernel))) rfl
theorem aw_270 : Cond.laysFinal "SceneTimes$State" "SceneTimes$State" "struck" "Z" ∈ AL := AL_t (tb_2 (List.mem_of_getElem? (i := 30) (by decide +kernel))) rfl
theorem aw_271 : Cond.soleField "SceneTimes$State" "struck" ∈ AL := AL_t (tb_2 (List.mem_of_getElem? (i := 31) (by decide +kernel))) rfl
theorem aw_272 : Cond.laysFinal "SceneTimes$State" "SceneTimes$State" "earlier" "LSceneTimes$State;" ∈ AL := AL_t (tb_2 (List.mem_of_getElem? (i := 32) (by decide +kernel))) rfl
theorem aw_273 : Cond.soleField "SceneTimes$State" "earlier" ∈ AL := AL_t (tb_2 (List.mem_of_getElem? (i := 33) (by decide +kernel))) rfl
theorem aw_274 : Cond.superclass "SceneTimes$State" "java/lang/Object" ∈ AL := AL_t (tb_2 (List.mem_of_getElem? (i := 34) (by decide +kernel))) rfl
theorem aw_275 : Cond.methodLink "SceneTimes$Note" 39 ⟨"SceneTimes$Note", "mix", "(II)I"⟩ ∈ AL := AL_t (tb_2 (List.mem_of_getElem? (i := 35) (by decide +kernel))) rfl
theorem aw_276 : Cond.static ⟨"SceneTimes$Note", "mix", "(II)I"⟩ ∈ AL := AL_t (tb_2 (List.mem_of_getElem? (i := 36) (by decide +kernel))) rfl
theorem aw_277 : Cond.code ⟨"SceneTimes$Note", "mix", "(II)I"⟩ prog_3_method_2_code 3 (some .int) ∈ AL := AL_t (tb_2 (List.mem_of_getElem? (i := 37) (rfl))) rfl
theorem aw_278 : Cond.fieldLink "SceneTimes$Note" 9 "SceneTimes$Note" "number" "I" ∈ AL := AL_t (tb_2 (List.mem_of_getElem? (i := 38) (by decide +kernel))) rfl
theorem aw_279 : Cond.fieldLink "SceneTimes" 84 "SceneTimes$Note" "number" "I" ∈ AL := AL_t (tb_2 (List.mem_of_getElem? (i := 39) (by decide +kernel))) rfl
theorem aw_280 : Cond.fieldLink "SceneTimes$Note" 15 "SceneTimes$Note" "writer" "I" ∈ AL := AL_t (tb_2 (List.mem_of_getElem? (i := 40) (by decide +kernel))) rfl
theorem aw_281 : Cond.fieldLink "SceneTimes$Sheet" 36 "SceneTimes$Note" "writer" "I" ∈ AL := AL_t (tb_2 (List.mem_of_getElem? (i := 41) (by decide +kernel))) rfl
theorem aw_282 : Cond.fieldLink "SceneTimes" 174 "SceneTimes$Note" "writer" "I" ∈ AL := AL_t (tb_2 (List.mem_of_getElem? (i := 42) (by decide +kernel))) rfl
theorem aw_283 : Cond.fieldLink "SceneTimes$Note" 18 "SceneTimes$Note" "kind" "I" ∈ AL := AL_t (tb_2 (List.mem_of_getElem? (i := 43) (by decide +kernel))) rfl
theorem aw_284 : Cond.fieldLink "SceneTimes$Sheet" 39 "SceneTimes$Note" "kind" "I" ∈ AL := AL_t (tb_2 (List.mem_of_getElem? (i := 44) (by decide +kernel))) rfl
theorem aw_285 : Cond.fieldLink "SceneTimes$Note" 21 "SceneTimes$Note" "sector" "I" ∈ AL := AL_t (tb_2 (List.mem_of_getElem? (i := 45) (by decide +kernel))) rfl
theorem aw_286 : Cond.fieldLink "SceneTimes$Sheet" 42 "SceneTimes$Note" "sector" "I" ∈ AL := AL_t (tb_2 (List.mem_of_getElem? (i := 46) (by decide +kernel))) rfl
theorem aw_287 : Cond.fieldLink "SceneTimes$Note" 24 "SceneTimes$Note" "second" "I" ∈ AL := AL_t (tb_2 (List.mem_of_getElem? (i := 47) (by decide +kernel))) rfl
theorem aw_288 : Cond.fieldLink "SceneTimes$Sheet" 27 "SceneTimes$Note" "second" "I" ∈ AL := AL_t (tb_2 (List.mem_of_getElem? (i := 48) (by decide +kernel))) rfl
theorem aw_289 : Cond.fieldLink "SceneTimes$Line" 28 "SceneTimes$Note" "second" "I" ∈ AL := AL_t (tb_2 (List.mem_of_getElem? (i := 49) (by decide +kernel))) rfl
theorem aw_290 : Cond.fieldLink "SceneTimes" 159 "SceneTimes$Note" "second" "I" ∈ AL := AL_t (tb_2 (List.mem_of_getElem? (i := 50) (by decide +kernel))) rfl
theorem aw_291 : Cond.fieldLink "SceneTimes$Note" 32 "SceneTimes$Note" "first" "LSceneTimes$State;" ∈ AL := AL_t (tb_2 (List.mem_of_getElem? (i := 51) (by decide +kernel))) rfl
theorem aw_292 : Cond.fieldLink "SceneTimes$Line" 45 "SceneTimes$Note" "first" "LSceneTimes$State;" ∈ AL := AL_t (tb_2 (List.mem_of_getElem? (i := 52) (by decide +kernel))) rfl
theorem aw_293 : Cond.fieldLink "SceneTimes" 139 "SceneTimes$Note" "first" "LSceneTimes$State;" ∈ AL := AL_t (tb_2 (List.mem_of_getElem? (i := 53) (by decide +kernel))) rfl
theorem aw_294 : Cond.fieldLink "SceneTimes$Note" 36 "SceneTimes$Note" "latest" "LSceneTimes$State;" ∈ AL := AL_t (tb_2 (List.mem_of_getElem? (i := 54) (by decide +kernel))) rfl
theorem aw_295 : Cond.fieldLink "SceneTimes" 93 "SceneTimes$Note" "latest" "LSceneTimes$State;" ∈ AL := AL_t (tb_2 (List.mem_of_getElem? (i := 55) (by decide +kernel))) rfl
theorem aw_296 : Cond.fieldLink "SceneTimes$Line" 35 "SceneTimes$Note" "latest" "LSceneTimes$State;" ∈ AL := AL_t (tb_2 (List.mem_of_getElem? (i := 56) (by decide +kernel))) rfl
theorem aw_297 : Cond.fieldLink "SceneTimes$Note" 53 "SceneTimes$Note" "acts" "I" ∈ AL := AL_t (tb_2 (List.mem_of_getElem? (i := 57) (by decide +kernel))) rfl
theorem aw_298 : Cond.fieldLink "SceneTimes" 202 "SceneTimes$Note" "acts" "I" ∈ AL := AL_t (tb_2 (List.mem_of_getElem? (i := 58) (by decide +kernel))) rfl
theorem aw_299 : Cond.fieldLink "SceneTimes$Note" 50 "SceneTimes$Note" "corrections" "I" ∈ AL := AL_t (tb_2 (List.mem_of_getElem? (i := 59) (by decide +kernel))) rfl
theorem aw_300 : Cond.fieldLink "SceneTimes" 118 "SceneTimes$Note" "corrections" "I" ∈ AL := AL_t (tb_2 (List.mem_of_getElem? (i := 60) (by decide +kernel))) rfl
theorem aw_301 : Cond.fieldLink "SceneTimes$Note" 43 "SceneTimes$Note" "mixed" "I" ∈ AL := AL_t (tb_2 (List.mem_of_getElem? (i := 61) (by decide +kernel))) rfl
theorem aw_302 : Cond.fieldLink "SceneTimes" 199 "SceneTimes$Note" "mixed" "I" ∈ AL := AL_t (tb_2 (List.mem_of_getElem? (i := 62) (by decide +kernel))) rfl
theorem aw_303 : Cond.laysFinal "SceneTimes$Note" "SceneTimes$Note" "number" "I" ∈ AL := AL_t (tb_2 (List.mem_of_getElem? (i := 63) (by decide +kernel))) rfl
theorem aw_304 : Cond.soleField "SceneTimes$Note" "number" ∈ AL := AL_t (tb_2 (List.mem_of_getElem? (i := 64) (by decide +kernel))) rfl
theorem aw_305 : Cond.laysFinal "SceneTimes$Note" "SceneTimes$Note" "writer" "I" ∈ AL := AL_t (tb_2 (List.mem_of_getElem? (i := 65) (by decide +kernel))) rfl
theorem aw_306 : Cond.soleField "SceneTimes$Note" "writer" ∈ AL := AL_t (tb_2 (List.mem_of_getElem? (i := 66) (by decide +kernel))) rfl
theorem aw_307 : Cond.laysFinal "SceneTimes$Note" "SceneTimes$Note" "kind" "I" ∈ AL := AL_t (tb_2 (List.mem_of_getElem? (i := 67) (by decide +kernel))) rfl
theorem aw_308 : Cond.soleField "SceneTimes$Note" "kind" ∈ AL := AL_t (tb_2 (List.mem_of_getElem? (i := 68) (by decide +kernel))) rfl
theorem aw_309 : Cond.laysFinal "SceneTimes$Note" "SceneTimes$Note" "sector" "I" ∈ AL := AL_t (tb_2 (List.mem_of_getElem? (i := 69) (by decide +kernel))) rfl
theorem aw_310 : Cond.soleField "SceneTimes$Note" "sector" ∈ AL := AL_t (tb_2 (List.mem_of_getElem? (i := 70) (by decide +kernel))) rfl
theorem aw_311 : Cond.laysFinal "SceneTimes$Note" "SceneTimes$Note" "second" "I" ∈ AL := AL_t (tb_2 (List.mem_of_getElem? (i := 71) (by decide +kernel))) rfl
theorem aw_312 : Cond.soleField "SceneTimes$Note" "second" ∈ AL := AL_t (tb_2 (List.mem_of_getElem? (i := 72) (by decide +kernel))) rfl
theorem aw_313 : Cond.laysFinal "SceneTimes$Note" "SceneTimes$Note" "first" "LSceneTimes$State;" ∈ AL := AL_t (tb_2 (List.mem_of_getElem? (i := 73) (by decide +kernel))) rfl
theorem aw_314 : Cond.soleField "SceneTimes$Note" "first" ∈ AL := AL_t (tb_2 (List.mem_of_getElem? (i := 74) (by decide +kernel))) rfl
theorem aw_315 : Cond.lays "SceneTimes$Note" "SceneTimes$Note" "latest" "LSceneTimes$State;" ∈ AL := AL_t (tb_2 (List.mem_of_getElem? (i := 75) (by decide +kernel))) rfl
theorem aw_316 : Cond.soleField "SceneTimes$Note" "latest" ∈ AL := AL_t (tb_2 (List.mem_of_getElem? (i := 76) (by decide +kernel))) rfl
theorem aw_317 : Cond.lays "SceneTimes$Note" "SceneTimes$Note" "acts" "I" ∈ AL := AL_t (tb_2 (List.mem_of_getElem? (i := 77) (by decide +kernel))) rfl
theorem aw_318 : Cond.soleField "SceneTimes$Note" "acts" ∈ AL := AL_t (tb_2 (List.mem_of_getElem? (i := 78) (by decide +kernel))) rfl
theorem aw_319 : Cond.lays "SceneTimes$Note" "SceneTimes$Note" "corrections" "I" ∈ AL := AL_t (tb_2 (List.mem_of_getElem? (i := 79) (by decide +kernel))) rfl
theorem aw_320 : Cond.soleField "SceneTimes$Note" "corrections" ∈ AL := AL_t (tb_2 (List.mem_of_getElem? (i := 80) (by decide +kernel))) rfl
theorem aw_321 : Cond.lays "SceneTimes$Note" "SceneTimes$Note" "mixed" "I" ∈ AL := AL_t (tb_2 (List.mem_of_getElem? (i := 81) (by decide +kernel))) rfl
theorem aw_322 : Cond.soleField "SceneTimes$Note" "mixed" ∈ AL := AL_t (tb_2 (List.mem_of_getElem? (i := 82) (by decide +kernel))) rfl
theorem aw_323 : Cond.superclass "SceneTimes$Note" "java/lang/Object" ∈ AL := AL_t (tb_2 (List.mem_of_getElem? (i := 83) (by decide +kernel))) rfl
theorem aw_324 : Cond.methodLink "SceneTimes" 80 ⟨"SceneTimes$Line", "take", "(LSceneTimes$Note;)V"⟩ ∈ AL := AL_t (tb_2 (List.mem_of_getElem? (i := 84) (by decide +kernel))) rfl
theorem aw_325 : Cond.instanceMethod ⟨"SceneTimes$Line", "take", "(LSceneTimes$Note;)V"⟩ ∈ AL := AL_t (tb_2 (List.mem_of_getElem? (i := 85) (by decide +kernel))) rfl
theorem aw_326 : Cond.selects "SceneTimes$Line" ⟨"SceneTimes$Line", "take", "(LSceneTimes$Note;)V"⟩ ⟨"SceneTimes$Line", "take", "(LSceneTimes$Note;)V"⟩ ∈ AL := AL_t (tb_2 (List.mem_of_getElem? (i := 86) (by decide +kernel))) rfl
theorem aw_327 : Cond.code ⟨"SceneTimes$Line", "take", "(LSceneTimes$Note;)V"⟩ prog_2_method_2_code 3 none ∈ AL := AL_t (tb_2 (List.mem_of_getElem? (i := 87) (rfl))) rfl
theorem aw_328 : Cond.methodLink "SceneTimes$Line" 24 ⟨"SceneTimes$Note", "standsBehind", "(LSceneTimes$Note;)Z"⟩ ∈ AL := AL_t (tb_2 (List.mem_of_getElem? (i := 88) (by decide +kernel))) rfl
theorem aw_329 : Cond.instanceMethod ⟨"SceneTimes$Note", "standsBehind", "(LSceneTimes$Note;)Z"⟩ ∈ AL := AL_t (tb_2 (List.mem_of_getElem? (i := 89) (by decide +kernel))) rfl
theorem aw_330 : Cond.selects "SceneTimes$Note" ⟨"SceneTimes$Note", "standsBehind", "(LSceneTimes$Note;)Z"⟩ ⟨"SceneTimes$Note", "standsBehind", "(LSceneTimes$Note;)Z"⟩ ∈ AL := AL_t (tb_2 (List.mem_of_getElem? (i := 90) (by decide +kernel))) rfl
theorem aw_331 : Cond.code ⟨"SceneTimes$Note", "standsBehind", "(LSceneTimes$Note;)Z"⟩ prog_3_method_9_code 2 (some .boolean) ∈ AL := AL_t (tb_2 (List.mem_of_getElem? (i := 91) (rfl))) rfl
theorem aw_332 : Cond.methodLink "SceneTimesLaw" 81 ⟨"SceneTimesLaw", "correct", "(LSceneTimes;II[J)I"⟩ ∈ AL := AL_t (tb_2 (List.mem_of_getElem? (i := 92) (by decide +kernel))) rfl
theorem aw_333 : Cond.static ⟨"SceneTimesLaw", "correct", "(LSceneTimes;II[J)I"⟩ ∈ AL := AL_t (tb_2 (List.mem_of_getElem? (i := 93) (by decide +kernel))) rfl
theorem aw_334 : Cond.codeWith ⟨"SceneTimesLaw", "correct", "(LSceneTimes;II[J)I"⟩ method_5_code 5 (some .int) [(0, 10, 13, 19), (0, 10, 17, 21), (0, 10, 21, 27), (0, 10, 25, 13)] ∈ AL := AL_t (tb_2 (List.mem_of_getElem? (i := 94) (rfl))) rfl
theorem aw_335 : Cond.classLink "SceneTimesLaw" 27 "java/lang/IllegalStateException" ∈ AL := AL_t (tb_2 (List.mem_of_getElem? (i := 95) (by decide +kernel))) rfl
theorem aw_336 : Cond.methodLink "SceneTimesLaw" 23 ⟨"SceneTimes", "correct", "(II)I"⟩ ∈ AL := AL_t (tb_2 (List.mem_of_getElem? (i := 96) (by decide +kernel))) rfl
theorem aw_337 : Cond.instanceMethod ⟨"SceneTimes", "correct", "(II)I"⟩ ∈ AL := AL_t (tb_2 (List.mem_of_getElem? (i := 97) (by decide +kernel))) rfl
theorem aw_338 : Cond.selects "SceneTimes" ⟨"SceneTimes", "correct", "(II)I"⟩ ⟨"SceneTimes", "correct", "(II)I"⟩ ∈ AL := AL_t (tb_2 (List.mem_of_getElem? (i := 98) (by decide +kernel))) rfl
theorem aw_339 : Cond.code ⟨"SceneTimes", "correct", "(II)I"⟩ prog_1_method_4_code 4 (some .int) ∈ AL := AL_t (tb_2 (List.mem_of_getElem? (i := 99) (rfl))) rfl
theorem aw_340 : Cond.methodLink "SceneTimes" 87 ⟨"SceneTimes", "noteOf", "(I)LSceneTimes$Note;"⟩ ∈ AL := AL_t (tb_2 (List.mem_of_getElem? (i := 100) (by decide +kernel))) rfl
theorem aw_342 : Cond.instanceMethod ⟨"SceneTimes", "noteOf", "(I)LSceneTimes$Note;"⟩ ∈ AL := AL_t (tb_2 (List.mem_of_getElem? (i := 102) (by decide +kernel))) rfl
theorem aw_343 : Cond.code ⟨"SceneTimes", "noteOf", "(I)LSceneTimes$Note;"⟩ prog_1_method_21_code 2 (some (.object "SceneTimes$Note")) ∈ AL := AL_t (tb_2 (List.mem_of_getElem? (i := 103) (rfl))) rfl
theorem aw_346 : Cond.classLink "SceneTimes" 103 "java/lang/IllegalStateException" ∈ AL := AL_t (tb_2 (List.mem_of_getElem? (i := 106) (by decide +kernel))) rfl
theorem aw_347 : Cond.instantiable "java/lang/IllegalStateException" 6 ∈ AL := AL_t (tb_2 (List.mem_of_getElem? (i := 107) (by decide +kernel))) rfl
theorem aw_349 : Cond.selects "java/lang/IllegalStateException" ⟨"java/lang/Throwable", "fillInStackTrace", "(I)Ljava/lang/Throwable;"⟩ ⟨"java/lang/Throwable", "fillInStackTrace", "(I)Ljava/lang/Throwable;"⟩ ∈ AL := AL_t (tb_2 (List.mem_of_getElem? (i := 109) (by decide +kernel))) rfl
theorem aw_350 : Cond.lays "java/lang/IllegalStateException" "java/lang/Throwable" "cause" "Ljava/lang/Throwable;" ∈ AL := AL_t (tb_2 (List.mem_of_getElem? (i := 110) (by decide +kernel))) rfl
theorem aw_351 : Cond.lays "java/lang/IllegalStateException" "java/lang/Throwable" "stackTrace" "[Ljava/lang/StackTraceElement;" ∈ AL := AL_t (tb_2 (List.mem_of_getElem? (i := 111) (by decide +kernel))) rfl
theorem aw_352 : Cond.lays "java/lang/IllegalStateException" "java/lang/Throwable" "suppressedExceptions" "Ljava/util/List;" ∈ AL := AL_t (tb_2 (List.mem_of_getElem? (i := 112) (by decide +kernel))) rfl
theorem aw_353 : Cond.lays "java/lang/IllegalStateException" "java/lang/Throwable" "detailMessage" "Ljava/lang/String;" ∈ AL := AL_t (tb_2 (List.mem_of_getElem? (i := 113) (by decide +kernel))) rfl
theorem aw_354 : Cond.lays "java/lang/IllegalStateException" "java/lang/Throwable" "backtrace" "Ljava/lang/Object;" ∈ AL := AL_t (tb_2 (List.mem_of_getElem? (i := 114) (by decide +kernel))) rfl
theorem aw_356 : Cond.methodLink "SceneTimes" 107 ⟨"java/lang/IllegalStateException", "<init>", "(Ljava/lang/String;)V"⟩ ∈ AL := AL_t (tb_2 (List.mem_of_getElem? (i := 116) (by decide +kernel))) rfl
theorem aw_357 : Cond.instanceMethod ⟨"java/lang/IllegalStateException", "<init>", "(Ljava/lang/String;)V"⟩ ∈ AL := AL_t (tb_2 (List.mem_of_getElem? (i := 117) (by decide +kernel))) rfl
theorem aw_358 : Cond.code ⟨"java/lang/IllegalStateException", "<init>", "(Ljava/lang/String;)V"⟩ prog_11_method_2_code 2 none ∈ AL := AL_t (tb_2 (List.mem_of_getElem? (i := 118) (rfl))) rfl
theorem aw_359 : Cond.methodLink "java/lang/IllegalStateException" 7 ⟨"java/lang/RuntimeException", "<init>", "(Ljava/lang/String;)V"⟩ ∈ AL := AL_t (tb_2 (List.mem_of_getElem? (i := 119) (by decide +kernel))) rfl
theorem aw_360 : Cond.lays "java/lang/IllegalStateException" "java/lang/Throwable" "depth" "I" ∈ AL := AL_t (tb_2 (List.mem_of_getElem? (i := 120) (by decide +kernel))) rfl
theorem aw_361 : Cond.superclass "java/lang/IllegalStateException" "java/lang/RuntimeException" ∈ AL := AL_t (tb_2 (List.mem_of_getElem? (i := 121) (by decide +kernel))) rfl
theorem aw_362 : Cond.methodLink "SceneTimes" 108 ⟨"SceneTimes", "refuseActWithoutRoom", "()V"⟩ ∈ AL := AL_t (tb_2 (List.mem_of_getElem? (i := 122) (by decide +kernel))) rfl
theorem aw_364 : Cond.instanceMethod ⟨"SceneTimes", "refuseActWithoutRoom", "()V"⟩ ∈ AL := AL_t (tb_2 (List.mem_of_getElem? (i := 124) (by decide +kernel))) rfl
theorem aw_365 : Cond.code ⟨"SceneTimes", "refuseActWithoutRoom", "()V"⟩ prog_1_method_22_code 1 none ∈ AL := AL_t (tb_2 (List.mem_of_getElem? (i := 125) (rfl))) rfl
theorem aw_367 : Cond.methodLink "SceneTimes" 111 ⟨"SceneTimes$Note", "takeValue", "(II)V"⟩ ∈ AL := AL_t (tb_2 (List.mem_of_getElem? (i := 127) (by decide +kernel))) rfl
theorem aw_368 : Cond.instanceMethod ⟨"SceneTimes$Note", "takeValue", "(II)V"⟩ ∈ AL := AL_t (tb_2 (List.mem_of_getElem? (i := 128) (by decide +kernel))) rfl
theorem aw_369 : Cond.selects "SceneTimes$Note" ⟨"SceneTimes$Note", "takeValue", "(II)V"⟩ ⟨"SceneTimes$Note", "takeValue", "(II)V"⟩ ∈ AL := AL_t (tb_2 (List.mem_of_getElem? (i := 129) (by decide +kernel))) rfl
theorem aw_370 : Cond.code ⟨"SceneTimes$Note", "takeValue", "(II)V"⟩ prog_3_method_3_code 3 none ∈ AL := AL_t (tb_2 (List.mem_of_getElem? (i := 130) (rfl))) rfl
theorem aw_371 : Cond.methodLink "SceneTimesLaw" 85 ⟨"SceneTimesLaw", "strike", "(LSceneTimes;IZ)I"⟩ ∈ AL := AL_t (tb_2 (List.mem_of_getElem? (i := 131) (by decide +kernel))) rfl
theorem aw_372 : Cond.static ⟨"SceneTimesLaw", "strike", "(LSceneTimes;IZ)I"⟩ ∈ AL := AL_t (tb_2 (List.mem_of_getElem? (i := 132) (by decide +kernel))) rfl
theorem aw_373 : Cond.codeWith ⟨"SceneTimesLaw", "strike", "(LSceneTimes;IZ)I"⟩ method_6_code 4 (some .int) [(0, 6, 9, 19), (0, 6, 12, 27), (0, 6, 15, 13)] ∈ AL := AL_t (tb_2 (List.mem_of_getElem? (i := 133) (rfl))) rfl
theorem aw_374 : Cond.methodLink "SceneTimesLaw" 29 ⟨"SceneTimes", "strike", "(IZ)V"⟩ ∈ AL := AL_t (tb_2 (List.mem_of_getElem? (i := 134) (by decide +kernel))) rfl
theorem aw_375 : Cond.instanceMethod ⟨"SceneTimes", "strike", "(IZ)V"⟩ ∈ AL := AL_t (tb_2 (List.mem_of_getElem? (i := 135) (by decide +kernel))) rfl
theorem aw_376 : Cond.selects "SceneTimes" ⟨"SceneTimes", "strike", "(IZ)V"⟩ ⟨"SceneTimes", "strike", "(IZ)V"⟩ ∈ AL := AL_t (tb_2 (List.mem_of_getElem? (i := 136) (by decide +kernel))) rfl
theorem aw_377 : Cond.code ⟨"SceneTimes", "strike", "(IZ)V"⟩ prog_1_method_5_code 4 none ∈ AL := AL_t (tb_2 (List.mem_of_getElem? (i := 137) (rfl))) rfl
theorem aw_379 : Cond.methodLink "SceneTimes" 123 ⟨"SceneTimes$Note", "takeStrike", "(IZ)V"⟩ ∈ AL := AL_t (tb_2 (List.mem_of_getElem? (i := 139) (by decide +kernel))) rfl
theorem aw_380 : Cond.instanceMethod ⟨"SceneTimes$Note", "takeStrike", "(IZ)V"⟩ ∈ AL := AL_t (tb_2 (List.mem_of_getElem? (i := 140) (by decide +kernel))) rfl
theorem aw_381 : Cond.selects "SceneTimes$Note" ⟨"SceneTimes$Note", "takeStrike", "(IZ)V"⟩ ⟨"SceneTimes$Note", "takeStrike", "(IZ)V"⟩ ∈ AL := AL_t (tb_2 (List.mem_of_getElem? (i := 141) (by decide +kernel))) rfl
theorem aw_382 : Cond.code ⟨"SceneTimes$Note", "takeStrike", "(IZ)V"⟩ prog_3_method_4_code 3 none ∈ AL := AL_t (tb_2 (List.mem_of_getElem? (i := 142) (rfl))) rfl
theorem aw_383 : Cond.methodLink "SceneTimesLaw" 89 ⟨"SceneTimesLaw", "ask", "(LSceneTimes;IIIII[J)I"⟩ ∈ AL := AL_t (tb_2 (List.mem_of_getElem? (i := 143) (by decide +kernel))) rfl
theorem aw_384 : Cond.static ⟨"SceneTimesLaw", "ask", "(LSceneTimes;IIIII[J)I"⟩ ∈ AL := AL_t (tb_2 (List.mem_of_getElem? (i := 144) (by decide +kernel))) rfl
theorem aw_385 : Cond.codeWith ⟨"SceneTimesLaw", "ask", "(LSceneTimes;IIIII[J)I"⟩ method_7_code 8 (some .int) [(0, 16, 19, 19), (0, 16, 23, 21)] ∈ AL := AL_t (tb_2 (List.mem_of_getElem? (i := 145) (rfl))) rfl
theorem aw_386 : Cond.methodLink "SceneTimesLaw" 33 ⟨"SceneTimes", "ask", "(IIIII)I"⟩ ∈ AL := AL_t (tb_2 (List.mem_of_getElem? (i := 146) (by decide +kernel))) rfl
theorem aw_387 : Cond.instanceMethod ⟨"SceneTimes", "ask", "(IIIII)I"⟩ ∈ AL := AL_t (tb_2 (List.mem_of_getElem? (i := 147) (by decide +kernel))) rfl
theorem aw_388 : Cond.selects "SceneTimes" ⟨"SceneTimes", "ask", "(IIIII)I"⟩ ⟨"SceneTimes", "ask", "(IIIII)I"⟩ ∈ AL := AL_t (tb_2 (List.mem_of_getElem? (i := 148) (by decide +kernel))) rfl
theorem aw_389 : Cond.code ⟨"SceneTimes", "ask", "(IIIII)I"⟩ prog_1_method_6_code 8 (some .int) ∈ AL := AL_t (tb_2 (List.mem_of_getElem? (i := 149) (rfl))) rfl
theorem aw_392 : Cond.methodLink "SceneTimes" 131 ⟨"SceneTimes$Question", "begin", "(I)V"⟩ ∈ AL := AL_t (tb_2 (List.mem_of_getElem? (i := 152) (by decide +kernel))) rfl
theorem aw_393 : Cond.instanceMethod ⟨"SceneTimes$Question", "begin", "(I)V"⟩ ∈ AL := AL_t (tb_2 (List.mem_of_getElem? (i := 153) (by decide +kernel))) rfl
theorem aw_394 : Cond.selects "SceneTimes$Question" ⟨"SceneTimes$Question", "begin", "(I)V"⟩ ⟨"SceneTimes$Question", "begin", "(I)V"⟩ ∈ AL := AL_t (tb_2 (List.mem_of_getElem? (i := 154) (by decide +kernel))) rfl
theorem aw_395 : Cond.code ⟨"SceneTimes$Question", "begin", "(I)V"⟩ prog_4_method_2_code 2 none ∈ AL := AL_t (tb_2 (List.mem_of_getElem? (i := 155) (rfl))) rfl
theorem aw_396 : Cond.methodLink "SceneTimes" 145 ⟨"SceneTimes$Note", "isWithin", "(II)Z"⟩ ∈ AL := AL_t (tb_2 (List.mem_of_getElem? (i := 156) (by decide +kernel))) rfl
theorem aw_397 : Cond.instanceMethod ⟨"SceneTimes$Note", "isWithin", "(II)Z"⟩ ∈ AL := AL_t (tb_2 (List.mem_of_getElem? (i := 157) (by decide +kernel))) rfl
theorem aw_398 : Cond.selects "SceneTimes$Note" ⟨"SceneTimes$Note", "isWithin", "(II)Z"⟩ ⟨"SceneTimes$Note", "isWithin", "(II)Z"⟩ ∈ AL := AL_t (tb_2 (List.mem_of_getElem? (i := 158) (by decide +kernel))) rfl
theorem aw_399 : Cond.code ⟨"SceneTimes$Note", "isWithin", "(II)Z"⟩ prog_3_method_6_code 3 (some .boolean) ∈ AL := AL_t (tb_2 (List.mem_of_getElem? (i := 159) (rfl))) rfl
theorem aw_400 : Cond.methodLink "SceneTimes" 149 ⟨"SceneTimes$Note", "isOf", "(II)Z"⟩ ∈ AL := AL_t (tb_2 (List.mem_of_getElem? (i := 160) (by decide +kernel))) rfl
theorem aw_401 : Cond.instanceMethod ⟨"SceneTimes$Note", "isOf", "(II)Z"⟩ ∈ AL := AL_t (tb_2 (List.mem_of_getElem? (i := 161) (by decide +kernel))) rfl
theorem aw_402 : Cond.selects "SceneTimes$Note" ⟨"SceneTimes$Note", "isOf", "(II)Z"⟩ ⟨"SceneTimes$Note", "isOf", "(II)Z"⟩ ∈ AL := AL_t (tb_2 (List.mem_of_getElem? (i := 162) (by decide +kernel))) rfl
theorem aw_403 : Cond.code ⟨"SceneTimes$Note", "isOf", "(II)Z"⟩ prog_3_method_7_code 3 (some .boolean) ∈ AL := AL_t (tb_2 (List.mem_of_getElem? (i := 163) (rfl))) rfl
theorem aw_404 : Cond.methodLink "SceneTimes" 152 ⟨"SceneTimes$Question", "take", "(LSceneTimes$Note;)V"⟩ ∈ AL := AL_t (tb_2 (List.mem_of_getElem? (i := 164) (by decide +kernel))) rfl
theorem aw_405 : Cond.instanceMethod ⟨"SceneTimes$Question", "take", "(LSceneTimes$Note;)V"⟩ ∈ AL := AL_t (tb_2 (List.mem_of_getElem? (i := 165) (by decide +kernel))) rfl
theorem aw_406 : Cond.selects "SceneTimes$Question" ⟨"SceneTimes$Question", "take", "(LSceneTimes$Note;)V"⟩ ⟨"SceneTimes$Question", "take", "(LSceneTimes$Note;)V"⟩ ∈ AL := AL_t (tb_2 (List.mem_of_getElem? (i := 166) (by decide +kernel))) rfl
theorem aw_407 : Cond.code ⟨"SceneTimes$Question", "take", "(LSceneTimes$Note;)V"⟩ prog_4_method_3_code 2 none ∈ AL := AL_t (tb_2 (List.mem_of_getElem? (i := 167) (rfl))) rfl
theorem aw_408 : Cond.methodLink "SceneTimesLaw" 92 ⟨"SceneTimesLaw", "row", "(LSceneTimes;II[J)I"⟩ ∈ AL := AL_t (tb_2 (List.mem_of_getElem? (i := 168) (by decide +kernel))) rfl
theorem aw_409 : Cond.static ⟨"SceneTimesLaw", "row", "(LSceneTimes;II[J)I"⟩ ∈ AL := AL_t (tb_2 (List.mem_of_getElem? (i := 169) (by decide +kernel))) rfl
theorem aw_410 : Cond.codeWith ⟨"SceneTimesLaw", "row", "(LSceneTimes;II[J)I"⟩ method_8_code 5 (some .int) [(0, 10, 13, 19)] ∈ AL := AL_t (tb_2 (List.mem_of_getElem? (i := 170) (rfl))) rfl
theorem aw_411 : Cond.methodLink "SceneTimesLaw" 36 ⟨"SceneTimes", "row", "(II)I"⟩ ∈ AL := AL_t (tb_2 (List.mem_of_getElem? (i := 171) (by decide +kernel))) rfl
theorem aw_412 : Cond.instanceMethod ⟨"SceneTimes", "row", "(II)I"⟩ ∈ AL := AL_t (tb_2 (List.mem_of_getElem? (i := 172) (by decide +kernel))) rfl
theorem aw_413 : Cond.selects "SceneTimes" ⟨"SceneTimes", "row", "(II)I"⟩ ⟨"SceneTimes", "row", "(II)I"⟩ ∈ AL := AL_t (tb_2 (List.mem_of_getElem? (i := 173) (by decide +kernel))) rfl
theorem aw_414 : Cond.code ⟨"SceneTimes", "row", "(II)I"⟩ prog_1_method_7_code 4 (some .int) ∈ AL := AL_t (tb_2 (List.mem_of_getElem? (i := 174) (rfl))) rfl
theorem aw_416 : Cond.methodLink "SceneTimes" 163 ⟨"SceneTimes$Note", "stateAt", "(I)LSceneTimes$State;"⟩ ∈ AL := AL_t (tb_2 (List.mem_of_getElem? (i := 176) (by decide +kernel))) rfl
theorem aw_417 : Cond.instanceMethod ⟨"SceneTimes$Note", "stateAt", "(I)LSceneTimes$State;"⟩ ∈ AL := AL_t (tb_2 (List.mem_of_getElem? (i := 177) (by decide +kernel))) rfl
theorem aw_418 : Cond.selects "SceneTimes$Note" ⟨"SceneTimes$Note", "stateAt", "(I)LSceneTimes$State;"⟩ ⟨"SceneTimes$Note", "stateAt", "(I)LSceneTimes$State;"⟩ ∈ AL := AL_t (tb_2 (List.mem_of_getElem? (i := 178) (by decide +kernel))) rfl
theorem aw_419 : Cond.code ⟨"SceneTimes$Note", "stateAt", "(I)LSceneTimes$State;"⟩ prog_3_method_5_code 3 (some (.object "SceneTimes$State")) ∈ AL := AL_t (tb_2 (List.mem_of_getElem? (i := 179) (rfl))) rfl
theorem aw_420 : Cond.methodLink "SceneTimes" 170 ⟨"SceneTimes", "oneIf", "(Z)I"⟩ ∈ AL := AL_t (tb_2 (List.mem_of_getElem? (i := 180) (by decide +kernel))) rfl
theorem aw_421 : Cond.static ⟨"SceneTimes", "oneIf", "(Z)I"⟩ ∈ AL := AL_t (tb_2 (List.mem_of_getElem? (i := 181) (by decide +kernel))) rfl
theorem aw_422 : Cond.code ⟨"SceneTimes", "oneIf", "(Z)I"⟩ prog_1_method_23_code 1 (some .int) ∈ AL := AL_t (tb_2 (List.mem_of_getElem? (i := 182) (rfl))) rfl
theorem aw_424 : Cond.methodLink "SceneTimesLaw" 95 ⟨"SceneTimesLaw", "reading", "(LSceneTimes;II[J)I"⟩ ∈ AL := AL_t (tb_2 (List.mem_of_getElem? (i := 184) (by decide +kernel))) rfl
theorem aw_425 : Cond.static ⟨"SceneTimesLaw", "reading", "(LSceneTimes;II[J)I"⟩ ∈ AL := AL_t (tb_2 (List.mem_of_getElem? (i := 185) (by decide +kernel))) rfl
theorem aw_426 : Cond.codeWith ⟨"SceneTimesLaw", "reading", "(LSceneTimes;II[J)I"⟩ method_9_code 5 (some .int) [(0, 10, 13, 19), (0, 10, 17, 21), (0, 10, 21, 27)] ∈ AL := AL_t (tb_2 (List.mem_of_getElem? (i := 186) (rfl))) rfl
theorem aw_427 : Cond.methodLink "SceneTimesLaw" 39 ⟨"SceneTimes", "reading", "(II)I"⟩ ∈ AL := AL_t (tb_2 (List.mem_of_getElem? (i := 187) (by decide +kernel))) rfl
theorem aw_428 : Cond.instanceMethod ⟨"SceneTimes", "reading", "(II)I"⟩ ∈ AL := AL_t (tb_2 (List.mem_of_getElem? (i := 188) (by decide +kernel))) rfl
theorem aw_429 : Cond.selects "SceneTimes" ⟨"SceneTimes", "reading", "(II)I"⟩ ⟨"SceneTimes", "reading", "(II)I"⟩ ∈ AL := AL_t (tb_2 (List.mem_of_getElem? (i := 189) (by decide +kernel))) rfl
theorem aw_430 : Cond.code ⟨"SceneTimes", "reading", "(II)I"⟩ prog_1_method_8_code 5 (some .int) ∈ AL := AL_t (tb_2 (List.mem_of_getElem? (i := 190) (rfl))) rfl
theorem aw_433 : Cond.methodLink "SceneTimes" 183 ⟨"SceneTimes$Line", "lastReadingUpTo", "(II)LSceneTimes$Note;"⟩ ∈ AL := AL_t (tb_2 (List.mem_of_getElem? (i := 193) (by decide +kernel))) rfl
theorem aw_434 : Cond.instanceMethod ⟨"SceneTimes$Line", "lastReadingUpTo", "(II)LSceneTimes$Note;"⟩ ∈ AL := AL_t (tb_2 (List.mem_of_getElem? (i := 194) (by decide +kernel))) rfl
theorem aw_435 : Cond.selects "SceneTimes$Line" ⟨"SceneTimes$Line", "lastReadingUpTo", "(II)LSceneTimes$Note;"⟩ ⟨"SceneTimes$Line", "lastReadingUpTo", "(II)LSceneTimes$Note;"⟩ ∈ AL := AL_t (tb_2 (List.mem_of_getElem? (i := 195) (by decide +kernel))) rfl
theorem aw_436 : Cond.code ⟨"SceneTimes$Line", "lastReadingUpTo", "(II)LSceneTimes$Note;"⟩ prog_2_method_3_code 4 (some (.object "SceneTimes$Note")) ∈ AL := AL_t (tb_2 (List.mem_of_getElem? (i := 196) (rfl))) rfl
theorem aw_437 : Cond.methodLink "SceneTimes$Line" 31 ⟨"SceneTimes$Note", "isReadingOf", "(I)Z"⟩ ∈ AL := AL_t (tb_2 (List.mem_of_getElem? (i := 197) (by decide +kernel))) rfl
theorem aw_438 : Cond.instanceMethod ⟨"SceneTimes$Note", "isReadingOf", "(I)Z"⟩ ∈ AL := AL_t (tb_2 (List.mem_of_getElem? (i := 198) (by decide +kernel))) rfl
theorem aw_439 : Cond.selects "SceneTimes$Note" ⟨"SceneTimes$Note", "isReadingOf", "(I)Z"⟩ ⟨"SceneTimes$Note", "isReadingOf", "(I)Z"⟩ ∈ AL := AL_t (tb_2 (List.mem_of_getElem? (i := 199) (by decide +kernel))) rfl
theorem aw_440 : Cond.code ⟨"SceneTimes$Note", "isReadingOf", "(I)Z"⟩ prog_3_method_8_code 2 (some .boolean) ∈ AL := AL_t (tb_2 (List.mem_of_getElem? (i := 200) (rfl))) rfl
theorem aw_441 : Cond.methodLink "SceneTimes" 187 ⟨"SceneTimes$Line", "firstReadingFrom", "(II)LSceneTimes$Note;"⟩ ∈ AL := AL_t (tb_2 (List.mem_of_getElem? (i := 201) (by decide +kernel))) rfl
theorem aw_442 : Cond.instanceMethod ⟨"SceneTimes$Line", "firstReadingFrom", "(II)LSceneTimes$Note;"⟩ ∈ AL := AL_t (tb_2 (List.mem_of_getElem? (i := 202) (by decide +kernel))) rfl
theorem aw_443 : Cond.selects "SceneTimes$Line" ⟨"SceneTimes$Line", "firstReadingFrom", "(II)LSceneTimes$Note;"⟩ ⟨"SceneTimes$Line", "firstReadingFrom", "(II)LSceneTimes$Note;"⟩ ∈ AL := AL_t (tb_2 (List.mem_of_getElem? (i := 203) (by decide +kernel))) rfl
theorem aw_444 : Cond.code ⟨"SceneTimes$Line", "firstReadingFrom", "(II)LSceneTimes$Note;"⟩ prog_2_method_4_code 4 (some (.object "SceneTimes$Note")) ∈ AL := AL_t (tb_2 (List.mem_of_getElem? (i := 204) (rfl))) rfl
theorem aw_446 : Cond.methodLink "SceneTimes" 192 ⟨"SceneTimes", "valueBetween", "(LSceneTimes$Note;LSceneTimes$Note;I)I"⟩ ∈ AL := AL_t (tb_2 (List.mem_of_getElem? (i := 206) (by decide +kernel))) rfl
theorem aw_447 : Cond.static ⟨"SceneTimes", "valueBetween", "(LSceneTimes$Note;LSceneTimes$Note;I)I"⟩ ∈ AL := AL_t (tb_2 (List.mem_of_getElem? (i := 207) (by decide +kernel))) rfl
theorem aw_448 : Cond.code ⟨"SceneTimes", "valueBetween", "(LSceneTimes$Note;LSceneTimes$Note;I)I"⟩ prog_1_method_24_code 5 (some .int) ∈ AL := AL_t (tb_2 (List.mem_of_getElem? (i := 208) (rfl))) rfl
theorem aw_449 : Cond.methodLink "SceneTimes" 236 ⟨"java/lang/Math", "floorDiv", "(II)I"⟩ ∈ AL := AL_t (tb_2 (List.mem_of_getElem? (i := 209) (by decide +kernel))) rfl
theorem aw_450 : Cond.static ⟨"java/lang/Math", "floorDiv", "(II)I"⟩ ∈ AL := AL_t (tb_2 (List.mem_of_getElem? (i := 210) (by decide +kernel))) rfl
theorem aw_451 : Cond.code ⟨"java/lang/Math", "floorDiv", "(II)I"⟩ prog_13_method_47_code 3 (some .int) ∈ AL := AL_t (tb_2 (List.mem_of_getElem? (i := 211) (rfl))) rfl
theorem aw_452 : Cond.methodLink "SceneTimesLaw" 98 ⟨"SceneTimesLaw", "gap", "(LSceneTimes;II[J)I"⟩ ∈ AL := AL_t (tb_2 (List.mem_of_getElem? (i := 212) (by decide +kernel))) rfl
theorem aw_453 : Cond.static ⟨"SceneTimesLaw", "gap", "(LSceneTimes;II[J)I"⟩ ∈ AL := AL_t (tb_2 (List.mem_of_getElem? (i := 213) (by decide +kernel))) rfl
theorem aw_454 : Cond.codeWith ⟨"SceneTimesLaw", "gap", "(LSceneTimes;II[J)I"⟩ method_10_code 5 (some .int) [(0, 10, 13, 21)] ∈ AL := AL_t (tb_2 (List.mem_of_getElem? (i := 214) (rfl))) rfl
theorem aw_455 : Cond.methodLink "SceneTimesLaw" 42 ⟨"SceneTimes", "gap", "(II)I"⟩ ∈ AL := AL_t (tb_2 (List.mem_of_getElem? (i := 215) (by decide +kernel))) rfl
theorem aw_456 : Cond.instanceMethod ⟨"SceneTimes", "gap", "(II)I"⟩ ∈ AL := AL_t (tb_2 (List.mem_of_getElem? (i := 216) (by decide +kernel))) rfl
theorem aw_457 : Cond.selects "SceneTimes" ⟨"SceneTimes", "gap", "(II)I"⟩ ⟨"SceneTimes", "gap", "(II)I"⟩ ∈ AL := AL_t (tb_2 (List.mem_of_getElem? (i := 217) (by decide +kernel))) rfl
theorem aw_458 : Cond.code ⟨"SceneTimes", "gap", "(II)I"⟩ prog_1_method_9_code 7 (some .int) ∈ AL := AL_t (tb_2 (List.mem_of_getElem? (i := 218) (rfl))) rfl
theorem aw_459 : Cond.constant "SceneTimes" 196 99999 ∈ AL := AL_t (tb_2 (List.mem_of_getElem? (i := 219) (by decide +kernel))) rfl
theorem aw_461 : Cond.methodLink "SceneTimesLaw" 101 ⟨"SceneTimesLaw", "digest", "(LSceneTimes;I[J)I"⟩ ∈ AL := AL_t (tb_2 (List.mem_of_getElem? (i := 221) (by decide +kernel))) rfl
theorem aw_462 : Cond.static ⟨"SceneTimesLaw", "digest", "(LSceneTimes;I[J)I"⟩ ∈ AL := AL_t (tb_2 (List.mem_of_getElem? (i := 222) (by decide +kernel))) rfl
theorem aw_463 : Cond.codeWith ⟨"SceneTimesLaw", "digest", "(LSceneTimes;I[J)I"⟩ method_11_code 4 (some .int) [(0, 9, 12, 19)] ∈ AL := AL_t (tb_2 (List.mem_of_getElem? (i := 223) (rfl))) rfl
theorem aw_464 : Cond.methodLink "SceneTimesLaw" 45 ⟨"SceneTimes", "digest", "(I)I"⟩ ∈ AL := AL_t (tb_2 (List.mem_of_getElem? (i := 224) (by decide +kernel))) rfl
theorem aw_465 : Cond.instanceMethod ⟨"SceneTimes", "digest", "(I)I"⟩ ∈ AL := AL_t (tb_2 (List.mem_of_getElem? (i := 225) (by decide +kernel))) rfl
theorem aw_466 : Cond.selects "SceneTimes" ⟨"SceneTimes", "digest", "(I)I"⟩ ⟨"SceneTimes", "digest", "(I)I"⟩ ∈ AL := AL_t (tb_2 (List.mem_of_getElem? (i := 226) (by decide +kernel))) rfl
theorem aw_467 : Cond.code ⟨"SceneTimes", "digest", "(I)I"⟩ prog_1_method_10_code 2 (some .int) ∈ AL := AL_t (tb_2 (List.mem_of_getElem? (i := 227) (rfl))) rfl
theorem aw_468 : Cond.methodLink "SceneTimesLaw" 105 ⟨"SceneTimesLaw", "noteAt", "(LSceneTimes;II[J)I"⟩ ∈ AL := AL_t (tb_2 (List.mem_of_getElem? (i := 228) (by decide +kernel))) rfl
theorem aw_469 : Cond.static ⟨"SceneTimesLaw", "noteAt", "(LSceneTimes;II[J)I"⟩ ∈ AL := AL_t (tb_2 (List.mem_of_getElem? (i := 229) (by decide +kernel))) rfl
theorem aw_470 : Cond.codeWith ⟨"SceneTimesLaw", "noteAt", "(LSceneTimes;II[J)I"⟩ method_12_code 5 (some .int) [(0, 10, 13, 19)] ∈ AL := AL_t (tb_2 (List.mem_of_getElem? (i := 230) (rfl))) rfl
theorem aw_471 : Cond.methodLink "SceneTimesLaw" 49 ⟨"SceneTimes", "noteAt", "(II)I"⟩ ∈ AL := AL_t (tb_2 (List.mem_of_getElem? (i := 231) (by decide +kernel))) rfl
theorem aw_472 : Cond.instanceMethod ⟨"SceneTimes", "noteAt", "(II)I"⟩ ∈ AL := AL_t (tb_2 (List.mem_of_getElem? (i := 232) (by decide +kernel))) rfl
theorem aw_473 : Cond.selects "SceneTimes" ⟨"SceneTimes", "noteAt", "(II)I"⟩ ⟨"SceneTimes", "noteAt", "(II)I"⟩ ∈ AL := AL_t (tb_2 (List.mem_of_getElem? (i := 233) (by decide +kernel))) rfl
theorem aw_474 : Cond.code ⟨"SceneTimes", "noteAt", "(II)I"⟩ prog_1_method_11_code 4 (some .int) ∈ AL := AL_t (tb_2 (List.mem_of_getElem? (i := 234) (rfl))) rfl
theorem aw_475 : Cond.methodLink "SceneTimesLaw" 108 ⟨"SceneTimesLaw", "print", "(LSceneTimes;[J)I"⟩ ∈ AL := AL_t (tb_2 (List.mem_of_getElem? (i := 235) (by decide +kernel))) rfl
theorem aw_476 : Cond.static ⟨"SceneTimesLaw", "print", "(LSceneTimes;[J)I"⟩ ∈ AL := AL_t (tb_2 (List.mem_of_getElem? (i := 236) (by decide +kernel))) rfl
theorem aw_477 : Cond.codeWith ⟨"SceneTimesLaw", "print", "(LSceneTimes;[J)I"⟩ method_13_code 3 (some .int) [(0, 8, 11, 27)] ∈ AL := AL_t (tb_2 (List.mem_of_getElem? (i := 237) (rfl))) rfl
theorem aw_478 : Cond.methodLink "SceneTimesLaw" 52 ⟨"SceneTimes", "print", "()I"⟩ ∈ AL := AL_t (tb_2 (List.mem_of_getElem? (i := 238) (by decide +kernel))) rfl
theorem aw_479 : Cond.instanceMethod ⟨"SceneTimes", "print", "()I"⟩ ∈ AL := AL_t (tb_2 (List.mem_of_getElem? (i := 239) (by decide +kernel))) rfl
theorem aw_480 : Cond.selects "SceneTimes" ⟨"SceneTimes", "print", "()I"⟩ ⟨"SceneTimes", "print", "()I"⟩ ∈ AL := AL_t (tb_3 (List.mem_of_getElem? (i := 0) (by decide +kernel))) rfl
theorem aw_481 : Cond.code ⟨"SceneTimes", "print", "()I"⟩ prog_1_method_12_code 3 (some .int) ∈ AL := AL_t (tb_3 (List.mem_of_getElem? (i := 1) (rfl))) rfl
theorem aw_483 : Cond.methodLink "SceneTimes" 208 ⟨"SceneTimes$Sheet", "begin", "(I)V"⟩ ∈ AL := AL_t (tb_3 (List.mem_of_getElem? (i := 3) (by decide +kernel))) rfl
theorem aw_484 : Cond.instanceMethod ⟨"SceneTimes$Sheet", "begin", "(I)V"⟩ ∈ AL := AL_t (tb_3 (List.mem_of_getElem? (i := 4) (by decide +kernel))) rfl
theorem aw_485 : Cond.selects "SceneTimes$Sheet" ⟨"SceneTimes$Sheet", "begin", "(I)V"⟩ ⟨"SceneTimes$Sheet", "begin", "(I)V"⟩ ∈ AL := AL_t (tb_3 (List.mem_of_getElem? (i := 5) (by decide +kernel))) rfl
theorem aw_486 : Cond.code ⟨"SceneTimes$Sheet", "begin", "(I)V"⟩ prog_5_method_2_code 2 none ∈ AL := AL_t (tb_3 (List.mem_of_getElem? (i := 6) (rfl))) rfl
theorem aw_487 : Cond.methodLink "SceneTimes$Sheet" 19 ⟨"SceneTimes$Sheet", "putNumber", "(CI)V"⟩ ∈ AL := AL_t (tb_3 (List.mem_of_getElem? (i := 7) (by decide +kernel))) rfl
theorem aw_489 : Cond.instanceMethod ⟨"SceneTimes$Sheet", "putNumber", "(CI)V"⟩ ∈ AL := AL_t (tb_3 (List.mem_of_getElem? (i := 9) (by decide +kernel))) rfl
theorem aw_490 : Cond.code ⟨"SceneTimes$Sheet", "putNumber", "(CI)V"⟩ prog_5_method_4_code 3 none ∈ AL := AL_t (tb_3 (List.mem_of_getElem? (i := 10) (rfl))) rfl
theorem aw_491 : Cond.methodLink "SceneTimes$Sheet" 23 ⟨"SceneTimes$Sheet", "put", "(C)V"⟩ ∈ AL := AL_t (tb_3 (List.mem_of_getElem? (i := 11) (by decide +kernel))) rfl
theorem aw_493 : Cond.instanceMethod ⟨"SceneTimes$Sheet", "put", "(C)V"⟩ ∈ AL := AL_t (tb_3 (List.mem_of_getElem? (i := 13) (by decide +kernel))) rfl
theorem aw_494 : Cond.code ⟨"SceneTimes$Sheet", "put", "(C)V"⟩ prog_5_method_6_code 2 none ∈ AL := AL_t (tb_3 (List.mem_of_getElem? (i := 14) (rfl))) rfl
theorem aw_495 : Cond.methodLink "SceneTimes$Sheet" 32 ⟨"SceneTimes$Sheet", "putDigits", "(I)V"⟩ ∈ AL := AL_t (tb_3 (List.mem_of_getElem? (i := 15) (by decide +kernel))) rfl
theorem aw_497 : Cond.instanceMethod ⟨"SceneTimes$Sheet", "putDigits", "(I)V"⟩ ∈ AL := AL_t (tb_3 (List.mem_of_getElem? (i := 17) (by decide +kernel))) rfl
theorem aw_498 : Cond.code ⟨"SceneTimes$Sheet", "putDigits", "(I)V"⟩ prog_5_method_5_code 3 none ∈ AL := AL_t (tb_3 (List.mem_of_getElem? (i := 18) (rfl))) rfl
theorem aw_499 : Cond.methodLink "SceneTimes" 209 ⟨"SceneTimes$Sheet", "putRow", "(LSceneTimes$Note;LSceneTimes$State;)V"⟩ ∈ AL := AL_t (tb_3 (List.mem_of_getElem? (i := 19) (by decide +kernel))) rfl
theorem aw_500 : Cond.instanceMethod ⟨"SceneTimes$Sheet", "putRow", "(LSceneTimes$Note;LSceneTimes$State;)V"⟩ ∈ AL := AL_t (tb_3 (List.mem_of_getElem? (i := 20) (by decide +kernel))) rfl
theorem aw_501 : Cond.selects "SceneTimes$Sheet" ⟨"SceneTimes$Sheet", "putRow", "(LSceneTimes$Note;LSceneTimes$State;)V"⟩ ⟨"SceneTimes$Sheet", "putRow", "(LSceneTimes$Note;LSceneTimes$State;)V"⟩ ∈ AL := AL_t (tb_3 (List.mem_of_getElem? (i := 21) (by decide +kernel))) rfl
theorem aw_502 : Cond.code ⟨"SceneTimes$Sheet", "putRow", "(LSceneTimes$Note;LSceneTimes$State;)V"⟩ prog_5_method_3_code 3 none ∈ AL := AL_t (tb_3 (List.mem_of_getElem? (i := 22) (rfl))) rfl
theorem aw_503 : Cond.methodLink "SceneTimes$Sheet" 50 ⟨"java/lang/Math", "abs", "(I)I"⟩ ∈ AL := AL_t (tb_3 (List.mem_of_getElem? (i := 23) (by decide +kernel))) rfl
theorem aw_504 : Cond.static ⟨"java/lang/Math", "abs", "(I)I"⟩ ∈ AL := AL_t (tb_3 (List.mem_of_getElem? (i := 24) (by decide +kernel))) rfl
theorem aw_505 : Cond.code ⟨"java/lang/Math", "abs", "(I)I"⟩ prog_13_method_59_code 1 (some .int) ∈ AL := AL_t (tb_3 (List.mem_of_getElem? (i := 25) (rfl))) rfl
theorem aw_506 : Cond.methodLink "SceneTimesLaw" 111 ⟨"SceneTimesLaw", "at", "(LSceneTimes;I[J)I"⟩ ∈ AL := AL_t (tb_3 (List.mem_of_getElem? (i := 26) (by decide +kernel))) rfl
theorem aw_507 : Cond.static ⟨"SceneTimesLaw", "at", "(LSceneTimes;I[J)I"⟩ ∈ AL := AL_t (tb_3 (List.mem_of_getElem? (i := 27) (by decide +kernel))) rfl
theorem aw_508 : Cond.codeWith ⟨"SceneTimesLaw", "at", "(LSceneTimes;I[J)I"⟩ method_14_code 4 (some .int) [(0, 9, 12, 21)] ∈ AL := AL_t (tb_3 (List.mem_of_getElem? (i := 28) (rfl))) rfl
theorem aw_509 : Cond.methodLink "SceneTimesLaw" 55 ⟨"SceneTimes", "at", "(I)I"⟩ ∈ AL := AL_t (tb_3 (List.mem_of_getElem? (i := 29) (by decide +kernel))) rfl
theorem aw_510 : Cond.instanceMethod ⟨"SceneTimes", "at", "(I)I"⟩ ∈ AL := AL_t (tb_3 (List.mem_of_getElem? (i := 30) (by decide +kernel))) rfl
theorem aw_511 : Cond.selects "SceneTimes" ⟨"SceneTimes", "at", "(I)I"⟩ ⟨"SceneTimes", "at", "(I)I"⟩ ∈ AL := AL_t (tb_3 (List.mem_of_getElem? (i := 31) (by decide +kernel))) rfl
theorem aw_512 : Cond.code ⟨"SceneTimes", "at", "(I)I"⟩ prog_1_method_13_code 2 (some .int) ∈ AL := AL_t (tb_3 (List.mem_of_getElem? (i := 32) (rfl))) rfl
theorem aw_514 : Cond.methodLink "SceneTimesLaw" 114 ⟨"SceneTimesLaw", "tick", "(LSceneTimes;I[J)I"⟩ ∈ AL := AL_t (tb_3 (List.mem_of_getElem? (i := 34) (by decide +kernel))) rfl
theorem aw_515 : Cond.static ⟨"SceneTimesLaw", "tick", "(LSceneTimes;I[J)I"⟩ ∈ AL := AL_t (tb_3 (List.mem_of_getElem? (i := 35) (by decide +kernel))) rfl
theorem aw_516 : Cond.codeWith ⟨"SceneTimesLaw", "tick", "(LSceneTimes;I[J)I"⟩ method_15_code 4 (some .int) [(0, 9, 12, 21)] ∈ AL := AL_t (tb_3 (List.mem_of_getElem? (i := 36) (rfl))) rfl
theorem aw_517 : Cond.methodLink "SceneTimesLaw" 58 ⟨"SceneTimes", "tick", "(I)I"⟩ ∈ AL := AL_t (tb_3 (List.mem_of_getElem? (i := 37) (by decide +kernel))) rfl
theorem aw_518 : Cond.instanceMethod ⟨"SceneTimes", "tick", "(I)I"⟩ ∈ AL := AL_t (tb_3 (List.mem_of_getElem? (i := 38) (by decide +kernel))) rfl
theorem aw_519 : Cond.selects "SceneTimes" ⟨"SceneTimes", "tick", "(I)I"⟩ ⟨"SceneTimes", "tick", "(I)I"⟩ ∈ AL := AL_t (tb_3 (List.mem_of_getElem? (i := 39) (by decide +kernel))) rfl
theorem aw_520 : Cond.code ⟨"SceneTimes", "tick", "(I)I"⟩ prog_1_method_14_code 2 (some .int) ∈ AL := AL_t (tb_3 (List.mem_of_getElem? (i := 40) (rfl))) rfl
theorem aw_522 : Cond.methodLink "SceneTimesLaw" 117 ⟨"SceneTimesLaw", "count", "(LSceneTimes;I[J)I"⟩ ∈ AL := AL_t (tb_3 (List.mem_of_getElem? (i := 42) (by decide +kernel))) rfl
theorem aw_523 : Cond.static ⟨"SceneTimesLaw", "count", "(LSceneTimes;I[J)I"⟩ ∈ AL := AL_t (tb_3 (List.mem_of_getElem? (i := 43) (by decide +kernel))) rfl
theorem aw_524 : Cond.codeWith ⟨"SceneTimesLaw", "count", "(LSceneTimes;I[J)I"⟩ method_16_code 4 (some .int) [(0, 9, 12, 19)] ∈ AL := AL_t (tb_3 (List.mem_of_getElem? (i := 44) (rfl))) rfl
theorem aw_525 : Cond.methodLink "SceneTimesLaw" 61 ⟨"SceneTimes", "count", "(I)I"⟩ ∈ AL := AL_t (tb_3 (List.mem_of_getElem? (i := 45) (by decide +kernel))) rfl
theorem aw_526 : Cond.instanceMethod ⟨"SceneTimes", "count", "(I)I"⟩ ∈ AL := AL_t (tb_3 (List.mem_of_getElem? (i := 46) (by decide +kernel))) rfl
theorem aw_527 : Cond.selects "SceneTimes" ⟨"SceneTimes", "count", "(I)I"⟩ ⟨"SceneTimes", "count", "(I)I"⟩ ∈ AL := AL_t (tb_3 (List.mem_of_getElem? (i := 47) (by decide +kernel))) rfl
theorem aw_528 : Cond.code ⟨"SceneTimes", "count", "(I)I"⟩ prog_1_method_15_code 2 (some .int) ∈ AL := AL_t (tb_3 (List.mem_of_getElem? (i := 48) (rfl))) rfl
theorem aw_529 : Cond.methodLink "SceneTimes" 222 ⟨"SceneTimes$Line", "howManyStruck", "()I"⟩ ∈ AL := AL_t (tb_3 (List.mem_of_getElem? (i := 49) (by decide +kernel))) rfl
theorem aw_530 : Cond.instanceMethod ⟨"SceneTimes$Line", "howManyStruck", "()I"⟩ ∈ AL := AL_t (tb_3 (List.mem_of_getElem? (i := 50) (by decide +kernel))) rfl
theorem aw_531 : Cond.selects "SceneTimes$Line" ⟨"SceneTimes$Line", "howManyStruck", "()I"⟩ ⟨"SceneTimes$Line", "howManyStruck", "()I"⟩ ∈ AL := AL_t (tb_3 (List.mem_of_getElem? (i := 51) (by decide +kernel))) rfl
theorem aw_532 : Cond.code ⟨"SceneTimes$Line", "howManyStruck", "()I"⟩ prog_2_method_5_code 3 (some .int) ∈ AL := AL_t (tb_3 (List.mem_of_getElem? (i := 52) (rfl))) rfl
theorem aw_533 : Cond.methodLink "SceneTimes" 226 ⟨"SceneTimes$Line", "howManyWrittenLater", "()I"⟩ ∈ AL := AL_t (tb_3 (List.mem_of_getElem? (i := 53) (by decide +kernel))) rfl
theorem aw_534 : Cond.instanceMethod ⟨"SceneTimes$Line", "howManyWrittenLater", "()I"⟩ ∈ AL := AL_t (tb_3 (List.mem_of_getElem? (i := 54) (by decide +kernel))) rfl
theorem aw_535 : Cond.selects "SceneTimes$Line" ⟨"SceneTimes$Line", "howManyWrittenLater", "()I"⟩ ⟨"SceneTimes$Line", "howManyWrittenLater", "()I"⟩ ∈ AL := AL_t (tb_3 (List.mem_of_getElem? (i := 55) (by decide +kernel))) rfl
theorem aw_536 : Cond.code ⟨"SceneTimes$Line", "howManyWrittenLater", "()I"⟩ prog_2_method_6_code 3 (some .int) ∈ AL := AL_t (tb_3 (List.mem_of_getElem? (i := 56) (rfl))) rfl
theorem aw_537 : Cond.classLink "SceneTimesLaw" 65 "SceneTimesModel" ∈ AL := AL_t (tb_3 (List.mem_of_getElem? (i := 57) (by decide +kernel))) rfl
theorem aw_538 : Cond.instantiable "SceneTimesModel" 21 ∈ AL := AL_t (tb_3 (List.mem_of_getElem? (i := 58) (by decide +kernel))) rfl
theorem aw_539 : Cond.methodLink "SceneTimesLaw" 67 ⟨"SceneTimesModel", "<init>", "()V"⟩ ∈ AL := AL_t (tb_3 (List.mem_of_getElem? (i := 59) (by decide +kernel))) rfl
theorem aw_540 : Cond.instanceMethod ⟨"SceneTimesModel", "<init>", "()V"⟩ ∈ AL := AL_t (tb_3 (List.mem_of_getElem? (i := 60) (by decide +kernel))) rfl
theorem aw_541 : Cond.code ⟨"SceneTimesModel", "<init>", "()V"⟩ prog_8_method_1_code 1 none ∈ AL := AL_t (tb_3 (List.mem_of_getElem? (i := 61) (rfl))) rfl
theorem aw_542 : Cond.methodLink "SceneTimesModel" 1 ⟨"java/lang/Object", "<init>", "()V"⟩ ∈ AL := AL_t (tb_3 (List.mem_of_getElem? (i := 62) (by decide +kernel))) rfl
theorem aw_543 : Cond.fieldLink "SceneTimesModel" 46 "SceneTimesModel" "thrown" "I" ∈ AL := AL_t (tb_3 (List.mem_of_getElem? (i := 63) (by decide +kernel))) rfl
theorem aw_544 : Cond.fieldLink "SceneTimesModel" 57 "SceneTimesModel" "now" "I" ∈ AL := AL_t (tb_3 (List.mem_of_getElem? (i := 64) (by decide +kernel))) rfl
theorem aw_545 : Cond.fieldLink "SceneTimesModel" 60 "SceneTimesModel" "writers" "I" ∈ AL := AL_t (tb_3 (List.mem_of_getElem? (i := 65) (by decide +kernel))) rfl
theorem aw_546 : Cond.fieldLink "SceneTimesModel" 50 "SceneTimesModel" "notes" "I" ∈ AL := AL_t (tb_3 (List.mem_of_getElem? (i := 66) (by decide +kernel))) rfl
theorem aw_547 : Cond.fieldLink "SceneTimesModel" 7 "SceneTimesModel" "writer" "[I" ∈ AL := AL_t (tb_3 (List.mem_of_getElem? (i := 67) (by decide +kernel))) rfl
theorem aw_548 : Cond.fieldLink "SceneTimesModel" 13 "SceneTimesModel" "kind" "[I" ∈ AL := AL_t (tb_3 (List.mem_of_getElem? (i := 68) (by decide +kernel))) rfl
theorem aw_549 : Cond.fieldLink "SceneTimesModel" 16 "SceneTimesModel" "sector" "[I" ∈ AL := AL_t (tb_3 (List.mem_of_getElem? (i := 69) (by decide +kernel))) rfl
theorem aw_550 : Cond.fieldLink "SceneTimesModel" 19 "SceneTimesModel" "was" "[I" ∈ AL := AL_t (tb_3 (List.mem_of_getElem? (i := 70) (by decide +kernel))) rfl
theorem aw_551 : Cond.fieldLink "SceneTimesModel" 22 "SceneTimesModel" "first" "[I" ∈ AL := AL_t (tb_3 (List.mem_of_getElem? (i := 71) (by decide +kernel))) rfl
theorem aw_552 : Cond.fieldLink "SceneTimesModel" 25 "SceneTimesModel" "known" "[I" ∈ AL := AL_t (tb_3 (List.mem_of_getElem? (i := 72) (by decide +kernel))) rfl
theorem aw_553 : Cond.fieldLink "SceneTimesModel" 71 "SceneTimesModel" "acts" "I" ∈ AL := AL_t (tb_3 (List.mem_of_getElem? (i := 73) (by decide +kernel))) rfl
theorem aw_554 : Cond.fieldLink "SceneTimesModel" 28 "SceneTimesModel" "actOn" "[I" ∈ AL := AL_t (tb_3 (List.mem_of_getElem? (i := 74) (by decide +kernel))) rfl
theorem aw_555 : Cond.fieldLink "SceneTimesModel" 31 "SceneTimesModel" "act" "[I" ∈ AL := AL_t (tb_3 (List.mem_of_getElem? (i := 75) (by decide +kernel))) rfl
theorem aw_556 : Cond.fieldLink "SceneTimesModel" 34 "SceneTimesModel" "actValue" "[I" ∈ AL := AL_t (tb_3 (List.mem_of_getElem? (i := 76) (by decide +kernel))) rfl
theorem aw_557 : Cond.fieldLink "SceneTimesModel" 37 "SceneTimesModel" "actAt" "[I" ∈ AL := AL_t (tb_3 (List.mem_of_getElem? (i := 77) (by decide +kernel))) rfl
theorem aw_558 : Cond.fieldLink "SceneTimesModel" 92 "SceneTimesModel" "asked" "Z" ∈ AL := AL_t (tb_3 (List.mem_of_getElem? (i := 78) (by decide +kernel))) rfl
theorem aw_559 : Cond.fieldLink "SceneTimesModel" 99 "SceneTimesModel" "rows" "I" ∈ AL := AL_t (tb_3 (List.mem_of_getElem? (i := 79) (by decide +kernel))) rfl
theorem aw_560 : Cond.fieldLink "SceneTimesModel" 96 "SceneTimesModel" "asOf" "I" ∈ AL := AL_t (tb_3 (List.mem_of_getElem? (i := 80) (by decide +kernel))) rfl
theorem aw_561 : Cond.fieldLink "SceneTimesModel" 40 "SceneTimesModel" "rowNote" "[I" ∈ AL := AL_t (tb_3 (List.mem_of_getElem? (i := 81) (by decide +kernel))) rfl
theorem aw_562 : Cond.fieldLink "SceneTimesModel" 117 "SceneTimesModel" "printed" "I" ∈ AL := AL_t (tb_3 (List.mem_of_getElem? (i := 82) (by decide +kernel))) rfl
theorem aw_563 : Cond.fieldLink "SceneTimesModel" 43 "SceneTimesModel" "out" "[I" ∈ AL := AL_t (tb_3 (List.mem_of_getElem? (i := 83) (by decide +kernel))) rfl
theorem aw_564 : Cond.lays "SceneTimesModel" "SceneTimesModel" "thrown" "I" ∈ AL := AL_t (tb_3 (List.mem_of_getElem? (i := 84) (by decide +kernel))) rfl
theorem aw_565 : Cond.soleField "SceneTimesModel" "thrown" ∈ AL := AL_t (tb_3 (List.mem_of_getElem? (i := 85) (by decide +kernel))) rfl
theorem aw_566 : Cond.lays "SceneTimesModel" "SceneTimesModel" "now" "I" ∈ AL := AL_t (tb_3 (List.mem_of_getElem? (i := 86) (by decide +kernel))) rfl
theorem aw_567 : Cond.soleField "SceneTimesModel" "now" ∈ AL := AL_t (tb_3 (List.mem_of_getElem? (i := 87) (by decide +kernel))) rfl
theorem aw_568 : Cond.lays "SceneTimesModel" "SceneTimesModel" "writers" "I" ∈ AL := AL_t (tb_3 (List.mem_of_getElem? (i := 88) (by decide +kernel))) rfl
theorem aw_569 : Cond.soleField "SceneTimesModel" "writers" ∈ AL := AL_t (tb_3 (List.mem_of_getElem? (i := 89) (by decide +kernel))) rfl
theorem aw_570 : Cond.lays "SceneTimesModel" "SceneTimesModel" "notes" "I" ∈ AL := AL_t (tb_3 (List.mem_of_getElem? (i := 90) (by decide +kernel))) rfl
theorem aw_571 : Cond.soleField "SceneTimesModel" "notes" ∈ AL := AL_t (tb_3 (List.mem_of_getElem? (i := 91) (by decide +kernel))) rfl
theorem aw_572 : Cond.laysFinal "SceneTimesModel" "SceneTimesModel" "writer" "[I" ∈ AL := AL_t (tb_3 (List.mem_of_getElem? (i := 92) (by decide +kernel))) rfl
theorem aw_573 : Cond.soleField "SceneTimesModel" "writer" ∈ AL := AL_t (tb_3 (List.mem_of_getElem? (i := 93) (by decide +kernel))) rfl
theorem aw_574 : Cond.laysFinal "SceneTimesModel" "SceneTimesModel" "kind" "[I" ∈ AL := AL_t (tb_3 (List.mem_of_getElem? (i := 94) (by decide +kernel))) rfl
theorem aw_575 : Cond.soleField "SceneTimesModel" "kind" ∈ AL := AL_t (tb_3 (List.mem_of_getElem? (i := 95) (by decide +kernel))) rfl
theorem aw_576 : Cond.laysFinal "SceneTimesModel" "SceneTimesModel" "sector" "[I" ∈ AL := AL_t (tb_3 (List.mem_of_getElem? (i := 96) (by decide +kernel))) rfl
theorem aw_577 : Cond.soleField "SceneTimesModel" "sector" ∈ AL := AL_t (tb_3 (List.mem_of_getElem? (i := 97) (by decide +kernel))) rfl
theorem aw_578 : Cond.laysFinal "SceneTimesModel" "SceneTimesModel" "was" "[I" ∈ AL := AL_t (tb_3 (List.mem_of_getElem? (i := 98) (by decide +kernel))) rfl
theorem aw_579 : Cond.soleField "SceneTimesModel" "was" ∈ AL := AL_t (tb_3 (List.mem_of_getElem? (i := 99) (by decide +kernel))) rfl
theorem aw_580 : Cond.laysFinal "SceneTimesModel" "SceneTimesModel" "first" "[I" ∈ AL := AL_t (tb_3 (List.mem_of_getElem? (i := 100) (by decide +kernel))) rfl
theorem aw_581 : Cond.soleField "SceneTimesModel" "first" ∈ AL := AL_t (tb_3 (List.mem_of_getElem? (i := 101) (by decide +kernel))) rfl
theorem aw_582 : Cond.laysFinal "SceneTimesModel" "SceneTimesModel" "known" "[I" ∈ AL := AL_t (tb_3 (List.mem_of_getElem? (i := 102) (by decide +kernel))) rfl
theorem aw_583 : Cond.soleField "SceneTimesModel" "known" ∈ AL := AL_t (tb_3 (List.mem_of_getElem? (i := 103) (by decide +kernel))) rfl
theorem aw_584 : Cond.lays "SceneTimesModel" "SceneTimesModel" "acts" "I" ∈ AL := AL_t (tb_3 (List.mem_of_getElem? (i := 104) (by decide +kernel))) rfl
theorem aw_585 : Cond.soleField "SceneTimesModel" "acts" ∈ AL := AL_t (tb_3 (List.mem_of_getElem? (i := 105) (by decide +kernel))) rfl
theorem aw_586 : Cond.laysFinal "SceneTimesModel" "SceneTimesModel" "actOn" "[I" ∈ AL := AL_t (tb_3 (List.mem_of_getElem? (i := 106) (by decide +kernel))) rfl
theorem aw_587 : Cond.soleField "SceneTimesModel" "actOn" ∈ AL := AL_t (tb_3 (List.mem_of_getElem? (i := 107) (by decide +kernel))) rfl
theorem aw_588 : Cond.laysFinal "SceneTimesModel" "SceneTimesModel" "act" "[I" ∈ AL := AL_t (tb_3 (List.mem_of_getElem? (i := 108) (by decide +kernel))) rfl
theorem aw_589 : Cond.soleField "SceneTimesModel" "act" ∈ AL := AL_t (tb_3 (List.mem_of_getElem? (i := 109) (by decide +kernel))) rfl
theorem aw_590 : Cond.laysFinal "SceneTimesModel" "SceneTimesModel" "actValue" "[I" ∈ AL := AL_t (tb_3 (List.mem_of_getElem? (i := 110) (by decide +kernel))) rfl
theorem aw_591 : Cond.soleField "SceneTimesModel" "actValue" ∈ AL := AL_t (tb_3 (List.mem_of_getElem? (i := 111) (by decide +kernel))) rfl
theorem aw_592 : Cond.laysFinal "SceneTimesModel" "SceneTimesModel" "actAt" "[I" ∈ AL := AL_t (tb_3 (List.mem_of_getElem? (i := 112) (by decide +kernel))) rfl
theorem aw_593 : Cond.soleField "SceneTimesModel" "actAt" ∈ AL := AL_t (tb_3 (List.mem_of_getElem? (i := 113) (by decide +kernel))) rfl
theorem aw_594 : Cond.lays "SceneTimesModel" "SceneTimesModel" "asked" "Z" ∈ AL := AL_t (tb_3 (List.mem_of_getElem? (i := 114) (by decide +kernel))) rfl
theorem aw_595 : Cond.soleField "SceneTimesModel" "asked" ∈ AL := AL_t (tb_3 (List.mem_of_getElem? (i := 115) (by decide +kernel))) rfl
theorem aw_596 : Cond.lays "SceneTimesModel" "SceneTimesModel" "rows" "I" ∈ AL := AL_t (tb_3 (List.mem_of_getElem? (i := 116) (by decide +kernel))) rfl
theorem aw_597 : Cond.soleField "SceneTimesModel" "rows" ∈ AL := AL_t (tb_3 (List.mem_of_getElem? (i := 117) (by decide +kernel))) rfl
theorem aw_598 : Cond.lays "SceneTimesModel" "SceneTimesModel" "asOf" "I" ∈ AL := AL_t (tb_3 (List.mem_of_getElem? (i := 118) (by decide +kernel))) rfl
theorem aw_599 : Cond.soleField "SceneTimesModel" "asOf" ∈ AL := AL_t (tb_3 (List.mem_of_getElem? (i := 119) (by decide +kernel))) rfl
theorem aw_600 : Cond.laysFinal "SceneTimesModel" "SceneTimesModel" "rowNote" "[I" ∈ AL := AL_t (tb_3 (List.mem_of_getElem? (i := 120) (by decide +kernel))) rfl
theorem aw_601 : Cond.soleField "SceneTimesModel" "rowNote" ∈ AL := AL_t (tb_3 (List.mem_of_getElem? (i := 121) (by decide +kernel))) rfl
theorem aw_602 : Cond.lays "SceneTimesModel" "SceneTimesModel" "printed" "I" ∈ AL := AL_t (tb_3 (List.mem_of_getElem? (i := 122) (by decide +kernel))) rfl
theorem aw_603 : Cond.soleField "SceneTimesModel" "printed" ∈ AL := AL_t (tb_3 (List.mem_of_getElem? (i := 123) (by decide +kernel))) rfl
theorem aw_604 : Cond.laysFinal "SceneTimesModel" "SceneTimesModel" "out" "[I" ∈ AL := AL_t (tb_3 (List.mem_of_getElem? (i := 124) (by decide +kernel))) rfl
theorem aw_605 : Cond.soleField "SceneTimesModel" "out" ∈ AL := AL_t (tb_3 (List.mem_of_getElem? (i := 125) (by decide +kernel))) rfl
theorem aw_606 : Cond.superclass "SceneTimesModel" "java/lang/Object" ∈ AL := AL_t (tb_3 (List.mem_of_getElem? (i := 126) (by decide +kernel))) rfl
theorem aw_607 : Cond.arrayClass .int ∈ AL := AL_t (tb_3 (List.mem_of_getElem? (i := 127) (by decide +kernel))) rfl
theorem aw_608 : Cond.methodLink "SceneTimesLaw" 74 ⟨"SceneTimesModel", "thrown", "()I"⟩ ∈ AL := AL_t (tb_3 (List.mem_of_getElem? (i := 128) (by decide +kernel))) rfl
theorem aw_609 : Cond.instanceMethod ⟨"SceneTimesModel", "thrown", "()I"⟩ ∈ AL := AL_t (tb_3 (List.mem_of_getElem? (i := 129) (by decide +kernel))) rfl
theorem aw_610 : Cond.selects "SceneTimesModel" ⟨"SceneTimesModel", "thrown", "()I"⟩ ⟨"SceneTimesModel", "thrown", "()I"⟩ ∈ AL := AL_t (tb_3 (List.mem_of_getElem? (i := 130) (by decide +kernel))) rfl
theorem aw_611 : Cond.code ⟨"SceneTimesModel", "thrown", "()I"⟩ prog_8_method_2_code 1 (some .int) ∈ AL := AL_t (tb_3 (List.mem_of_getElem? (i := 131) (rfl))) rfl
theorem aw_612 : Cond.methodLink "SceneTimesLaw" 73 ⟨"SceneTimesModel", "writer", "()I"⟩ ∈ AL := AL_t (tb_3 (List.mem_of_getElem? (i := 132) (by decide +kernel))) rfl
theorem aw_613 : Cond.instanceMethod ⟨"SceneTimesModel", "writer", "()I"⟩ ∈ AL := AL_t (tb_3 (List.mem_of_getElem? (i := 133) (by decide +kernel))) rfl
theorem aw_614 : Cond.selects "SceneTimesModel" ⟨"SceneTimesModel", "writer", "()I"⟩ ⟨"SceneTimesModel", "writer", "()I"⟩ ∈ AL := AL_t (tb_3 (List.mem_of_getElem? (i := 134) (by decide +kernel))) rfl
theorem aw_615 : Cond.code ⟨"SceneTimesModel", "writer", "()I"⟩ prog_8_method_7_code 1 (some .int) ∈ AL := AL_t (tb_3 (List.mem_of_getElem? (i := 135) (rfl))) rfl
theorem aw_616 : Cond.methodLink "SceneTimesModel" 63 ⟨"SceneTimesModel", "goes", "(IZZZZ)Z"⟩ ∈ AL := AL_t (tb_3 (List.mem_of_getElem? (i := 136) (by decide +kernel))) rfl
theorem aw_618 : Cond.instanceMethod ⟨"SceneTimesModel", "goes", "(IZZZZ)Z"⟩ ∈ AL := AL_t (tb_3 (List.mem_of_getElem? (i := 138) (by decide +kernel))) rfl
theorem aw_619 : Cond.code ⟨"SceneTimesModel", "goes", "(IZZZZ)Z"⟩ prog_8_method_4_code 8 (some .boolean) ∈ AL := AL_t (tb_3 (List.mem_of_getElem? (i := 139) (rfl))) rfl
theorem aw_620 : Cond.methodLink "SceneTimesLaw" 80 ⟨"SceneTimesModel", "note", "(IIIII)I"⟩ ∈ AL := AL_t (tb_3 (List.mem_of_getElem? (i := 140) (by decide +kernel))) rfl
theorem aw_621 : Cond.instanceMethod ⟨"SceneTimesModel", "note", "(IIIII)I"⟩ ∈ AL := AL_t (tb_3 (List.mem_of_getElem? (i := 141) (by decide +kernel))) rfl
theorem aw_622 : Cond.selects "SceneTimesModel" ⟨"SceneTimesModel", "note", "(IIIII)I"⟩ ⟨"SceneTimesModel", "note", "(IIIII)I"⟩ ∈ AL := AL_t (tb_3 (List.mem_of_getElem? (i := 142) (by decide +kernel))) rfl
theorem aw_623 : Cond.code ⟨"SceneTimesModel", "note", "(IIIII)I"⟩ prog_8_method_8_code 6 (some .int) ∈ AL := AL_t (tb_3 (List.mem_of_getElem? (i := 143) (rfl))) rfl
theorem aw_624 : Cond.methodLink "SceneTimesModel" 53 ⟨"SceneTimesModel", "in", "(III)Z"⟩ ∈ AL := AL_t (tb_3 (List.mem_of_getElem? (i := 144) (by decide +kernel))) rfl
theorem aw_625 : Cond.static ⟨"SceneTimesModel", "in", "(III)Z"⟩ ∈ AL := AL_t (tb_3 (List.mem_of_getElem? (i := 145) (by decide +kernel))) rfl
theorem aw_626 : Cond.code ⟨"SceneTimesModel", "in", "(III)Z"⟩ prog_8_method_3_code 3 (some .boolean) ∈ AL := AL_t (tb_3 (List.mem_of_getElem? (i := 146) (rfl))) rfl
theorem aw_627 : Cond.methodLink "SceneTimesModel" 67 ⟨"SceneTimesModel", "isGone", "(I)Z"⟩ ∈ AL := AL_t (tb_3 (List.mem_of_getElem? (i := 147) (by decide +kernel))) rfl
theorem aw_629 : Cond.instanceMethod ⟨"SceneTimesModel", "isGone", "(I)Z"⟩ ∈ AL := AL_t (tb_3 (List.mem_of_getElem? (i := 149) (by decide +kernel))) rfl
theorem aw_630 : Cond.code ⟨"SceneTimesModel", "isGone", "(I)Z"⟩ prog_8_method_6_code 2 (some .boolean) ∈ AL := AL_t (tb_3 (List.mem_of_getElem? (i := 150) (rfl))) rfl
theorem aw_631 : Cond.methodLink "SceneTimesLaw" 84 ⟨"SceneTimesModel", "correct", "(II)I"⟩ ∈ AL := AL_t (tb_3 (List.mem_of_getElem? (i := 151) (by decide +kernel))) rfl
theorem aw_632 : Cond.instanceMethod ⟨"SceneTimesModel", "correct", "(II)I"⟩ ∈ AL := AL_t (tb_3 (List.mem_of_getElem? (i := 152) (by decide +kernel))) rfl
theorem aw_633 : Cond.selects "SceneTimesModel" ⟨"SceneTimesModel", "correct", "(II)I"⟩ ⟨"SceneTimesModel", "correct", "(II)I"⟩ ∈ AL := AL_t (tb_3 (List.mem_of_getElem? (i := 153) (by decide +kernel))) rfl
theorem aw_634 : Cond.code ⟨"SceneTimesModel", "correct", "(II)I"⟩ prog_8_method_13_code 3 (some .int) ∈ AL := AL_t (tb_3 (List.mem_of_getElem? (i := 154) (rfl))) rfl
theorem aw_635 : Cond.methodLink "SceneTimesModel" 74 ⟨"SceneTimesModel", "isNote", "(I)Z"⟩ ∈ AL := AL_t (tb_3 (List.mem_of_getElem? (i := 155) (by decide +kernel))) rfl
theorem aw_637 : Cond.instanceMethod ⟨"SceneTimesModel", "isNote", "(I)Z"⟩ ∈ AL := AL_t (tb_3 (List.mem_of_getElem? (i := 157) (by decide +kernel))) rfl
theorem aw_638 : Cond.code ⟨"SceneTimesModel", "isNote", "(I)Z"⟩ prog_8_method_5_code 2 (some .boolean) ∈ AL := AL_t (tb_3 (List.mem_of_getElem? (i := 158) (rfl))) rfl
theorem aw_639 : Cond.methodLink "SceneTimesModel" 77 ⟨"SceneTimesModel", "isStruck", "(II)Z"⟩ ∈ AL := AL_t (tb_3 (List.mem_of_getElem? (i := 159) (by decide +kernel))) rfl
theorem aw_641 : Cond.instanceMethod ⟨"SceneTimesModel", "isStruck", "(II)Z"⟩ ∈ AL := AL_t (tb_3 (List.mem_of_getElem? (i := 161) (by decide +kernel))) rfl
theorem aw_642 : Cond.code ⟨"SceneTimesModel", "isStruck", "(II)Z"⟩ prog_8_method_10_code 5 (some .boolean) ∈ AL := AL_t (tb_3 (List.mem_of_getElem? (i := 162) (rfl))) rfl
theorem aw_643 : Cond.methodLink "SceneTimesModel" 81 ⟨"SceneTimesModel", "does", "(III)V"⟩ ∈ AL := AL_t (tb_3 (List.mem_of_getElem? (i := 163) (by decide +kernel))) rfl
theorem aw_645 : Cond.instanceMethod ⟨"SceneTimesModel", "does", "(III)V"⟩ ∈ AL := AL_t (tb_3 (List.mem_of_getElem? (i := 165) (by decide +kernel))) rfl
theorem aw_646 : Cond.code ⟨"SceneTimesModel", "does", "(III)V"⟩ prog_8_method_11_code 4 none ∈ AL := AL_t (tb_3 (List.mem_of_getElem? (i := 166) (rfl))) rfl
theorem aw_647 : Cond.methodLink "SceneTimesModel" 85 ⟨"SceneTimesModel", "many", "(IZ)I"⟩ ∈ AL := AL_t (tb_3 (List.mem_of_getElem? (i := 167) (by decide +kernel))) rfl
theorem aw_649 : Cond.instanceMethod ⟨"SceneTimesModel", "many", "(IZ)I"⟩ ∈ AL := AL_t (tb_3 (List.mem_of_getElem? (i := 169) (by decide +kernel))) rfl
theorem aw_650 : Cond.code ⟨"SceneTimesModel", "many", "(IZ)I"⟩ prog_8_method_12_code 5 (some .int) ∈ AL := AL_t (tb_3 (List.mem_of_getElem? (i := 170) (rfl))) rfl
theorem aw_651 : Cond.methodLink "SceneTimesLaw" 88 ⟨"SceneTimesModel", "strike", "(IZ)V"⟩ ∈ AL := AL_t (tb_3 (List.mem_of_getElem? (i := 171) (by decide +kernel))) rfl
theorem aw_652 : Cond.instanceMethod ⟨"SceneTimesModel", "strike", "(IZ)V"⟩ ∈ AL := AL_t (tb_3 (List.mem_of_getElem? (i := 172) (by decide +kernel))) rfl
theorem aw_653 : Cond.selects "SceneTimesModel" ⟨"SceneTimesModel", "strike", "(IZ)V"⟩ ⟨"SceneTimesModel", "strike", "(IZ)V"⟩ ∈ AL := AL_t (tb_3 (List.mem_of_getElem? (i := 173) (by decide +kernel))) rfl
theorem aw_654 : Cond.code ⟨"SceneTimesModel", "strike", "(IZ)V"⟩ prog_8_method_14_code 3 none ∈ AL := AL_t (tb_3 (List.mem_of_getElem? (i := 174) (rfl))) rfl
theorem aw_655 : Cond.methodLink "SceneTimesLaw" 91 ⟨"SceneTimesModel", "ask", "(IIIII)I"⟩ ∈ AL := AL_t (tb_3 (List.mem_of_getElem? (i := 175) (by decide +kernel))) rfl
theorem aw_656 : Cond.instanceMethod ⟨"SceneTimesModel", "ask", "(IIIII)I"⟩ ∈ AL := AL_t (tb_3 (List.mem_of_getElem? (i := 176) (by decide +kernel))) rfl
theorem aw_657 : Cond.selects "SceneTimesModel" ⟨"SceneTimesModel", "ask", "(IIIII)I"⟩ ⟨"SceneTimesModel", "ask", "(IIIII)I"⟩ ∈ AL := AL_t (tb_3 (List.mem_of_getElem? (i := 177) (by decide +kernel))) rfl
theorem aw_658 : Cond.code ⟨"SceneTimesModel", "ask", "(IIIII)I"⟩ prog_8_method_17_code 7 (some .int) ∈ AL := AL_t (tb_3 (List.mem_of_getElem? (i := 178) (rfl))) rfl
theorem aw_659 : Cond.methodLink "SceneTimesModel" 102 ⟨"SceneTimesModel", "following", "(IZIII)I"⟩ ∈ AL := AL_t (tb_3 (List.mem_of_getElem? (i := 179) (by decide +kernel))) rfl
theorem aw_661 : Cond.instanceMethod ⟨"SceneTimesModel", "following", "(IZIII)I"⟩ ∈ AL := AL_t (tb_3 (List.mem_of_getElem? (i := 181) (by decide +kernel))) rfl
theorem aw_662 : Cond.code ⟨"SceneTimesModel", "following", "(IZIII)I"⟩ prog_8_method_16_code 8 (some .int) ∈ AL := AL_t (tb_3 (List.mem_of_getElem? (i := 182) (rfl))) rfl
theorem aw_663 : Cond.methodLink "SceneTimesModel" 89 ⟨"SceneTimesModel", "isBefore", "(II)Z"⟩ ∈ AL := AL_t (tb_3 (List.mem_of_getElem? (i := 183) (by decide +kernel))) rfl
theorem aw_665 : Cond.instanceMethod ⟨"SceneTimesModel", "isBefore", "(II)Z"⟩ ∈ AL := AL_t (tb_3 (List.mem_of_getElem? (i := 185) (by decide +kernel))) rfl
theorem aw_666 : Cond.code ⟨"SceneTimesModel", "isBefore", "(II)Z"⟩ prog_8_method_15_code 3 (some .boolean) ∈ AL := AL_t (tb_3 (List.mem_of_getElem? (i := 186) (rfl))) rfl
theorem aw_667 : Cond.methodLink "SceneTimesLaw" 94 ⟨"SceneTimesModel", "row", "(II)I"⟩ ∈ AL := AL_t (tb_3 (List.mem_of_getElem? (i := 187) (by decide +kernel))) rfl
theorem aw_668 : Cond.instanceMethod ⟨"SceneTimesModel", "row", "(II)I"⟩ ∈ AL := AL_t (tb_3 (List.mem_of_getElem? (i := 188) (by decide +kernel))) rfl
theorem aw_669 : Cond.selects "SceneTimesModel" ⟨"SceneTimesModel", "row", "(II)I"⟩ ⟨"SceneTimesModel", "row", "(II)I"⟩ ∈ AL := AL_t (tb_3 (List.mem_of_getElem? (i := 189) (by decide +kernel))) rfl
theorem aw_670 : Cond.code ⟨"SceneTimesModel", "row", "(II)I"⟩ prog_8_method_18_code 4 (some .int) ∈ AL := AL_t (tb_3 (List.mem_of_getElem? (i := 190) (rfl))) rfl
theorem aw_671 : Cond.methodLink "SceneTimesModel" 106 ⟨"SceneTimesModel", "value", "(II)I"⟩ ∈ AL := AL_t (tb_3 (List.mem_of_getElem? (i := 191) (by decide +kernel))) rfl
theorem aw_673 : Cond.instanceMethod ⟨"SceneTimesModel", "value", "(II)I"⟩ ∈ AL := AL_t (tb_3 (List.mem_of_getElem? (i := 193) (by decide +kernel))) rfl
theorem aw_674 : Cond.code ⟨"SceneTimesModel", "value", "(II)I"⟩ prog_8_method_9_code 5 (some .int) ∈ AL := AL_t (tb_3 (List.mem_of_getElem? (i := 194) (rfl))) rfl
theorem aw_675 : Cond.methodLink "SceneTimesLaw" 97 ⟨"SceneTimesModel", "reading", "(II)I"⟩ ∈ AL := AL_t (tb_3 (List.mem_of_getElem? (i := 195) (by decide +kernel))) rfl
theorem aw_676 : Cond.instanceMethod ⟨"SceneTimesModel", "reading", "(II)I"⟩ ∈ AL := AL_t (tb_3 (List.mem_of_getElem? (i := 196) (by decide +kernel))) rfl
theorem aw_677 : Cond.selects "SceneTimesModel" ⟨"SceneTimesModel", "reading", "(II)I"⟩ ⟨"SceneTimesModel", "reading", "(II)I"⟩ ∈ AL := AL_t (tb_3 (List.mem_of_getElem? (i := 197) (by decide +kernel))) rfl
theorem aw_678 : Cond.code ⟨"SceneTimesModel", "reading", "(II)I"⟩ prog_8_method_20_code 8 (some .int) ∈ AL := AL_t (tb_3 (List.mem_of_getElem? (i := 198) (rfl))) rfl
theorem aw_679 : Cond.methodLink "SceneTimesModel" 110 ⟨"SceneTimesModel", "floor", "(II)I"⟩ ∈ AL := AL_t (tb_3 (List.mem_of_getElem? (i := 199) (by decide +kernel))) rfl
theorem aw_680 : Cond.static ⟨"SceneTimesModel", "floor", "(II)I"⟩ ∈ AL := AL_t (tb_3 (List.mem_of_getElem? (i := 200) (by decide +kernel))) rfl
theorem aw_681 : Cond.code ⟨"SceneTimesModel", "floor", "(II)I"⟩ prog_8_method_19_code 3 (some .int) ∈ AL := AL_t (tb_3 (List.mem_of_getElem? (i := 201) (rfl))) rfl
theorem aw_682 : Cond.methodLink "SceneTimesLaw" 100 ⟨"SceneTimesModel", "gap", "(II)I"⟩ ∈ AL := AL_t (tb_3 (List.mem_of_getElem? (i := 202) (by decide +kernel))) rfl
theorem aw_683 : Cond.instanceMethod ⟨"SceneTimesModel", "gap", "(II)I"⟩ ∈ AL := AL_t (tb_3 (List.mem_of_getElem? (i := 203) (by decide +kernel))) rfl
theorem aw_684 : Cond.selects "SceneTimesModel" ⟨"SceneTimesModel", "gap", "(II)I"⟩ ⟨"SceneTimesModel", "gap", "(II)I"⟩ ∈ AL := AL_t (tb_3 (List.mem_of_getElem? (i := 204) (by decide +kernel))) rfl
theorem aw_685 : Cond.code ⟨"SceneTimesModel", "gap", "(II)I"⟩ prog_8_method_21_code 6 (some .int) ∈ AL := AL_t (tb_3 (List.mem_of_getElem? (i := 205) (rfl))) rfl
theorem aw_686 : Cond.constant "SceneTimesModel" 113 99999 ∈ AL := AL_t (tb_3 (List.mem_of_getElem? (i := 206) (by decide +kernel))) rfl
theorem aw_687 : Cond.methodLink "SceneTimesLaw" 104 ⟨"SceneTimesModel", "digest", "(I)I"⟩ ∈ AL := AL_t (tb_3 (List.mem_of_getElem? (i := 207) (by decide +kernel))) rfl
theorem aw_688 : Cond.instanceMethod ⟨"SceneTimesModel", "digest", "(I)I"⟩ ∈ AL := AL_t (tb_3 (List.mem_of_getElem? (i := 208) (by decide +kernel))) rfl
theorem aw_689 : Cond.selects "SceneTimesModel" ⟨"SceneTimesModel", "digest", "(I)I"⟩ ⟨"SceneTimesModel", "digest", "(I)I"⟩ ∈ AL := AL_t (tb_3 (List.mem_of_getElem? (i := 209) (by decide +kernel))) rfl
theorem aw_690 : Cond.code ⟨"SceneTimesModel", "digest", "(I)I"⟩ prog_8_method_23_code 4 (some .int) ∈ AL := AL_t (tb_3 (List.mem_of_getElem? (i := 210) (rfl))) rfl
theorem aw_691 : Cond.methodLink "SceneTimesModel" 114 ⟨"SceneTimesModel", "mix", "(II)I"⟩ ∈ AL := AL_t (tb_3 (List.mem_of_getElem? (i := 211) (by decide +kernel))) rfl
theorem aw_692 : Cond.static ⟨"SceneTimesModel", "mix", "(II)I"⟩ ∈ AL := AL_t (tb_3 (List.mem_of_getElem? (i := 212) (by decide +kernel))) rfl
theorem aw_693 : Cond.code ⟨"SceneTimesModel", "mix", "(II)I"⟩ prog_8_method_22_code 3 (some .int) ∈ AL := AL_t (tb_3 (List.mem_of_getElem? (i := 213) (rfl))) rfl
theorem aw_694 : Cond.methodLink "SceneTimesLaw" 107 ⟨"SceneTimesModel", "noteAt", "(II)I"⟩ ∈ AL := AL_t (tb_3 (List.mem_of_getElem? (i := 214) (by decide +kernel))) rfl
theorem aw_695 : Cond.instanceMethod ⟨"SceneTimesModel", "noteAt", "(II)I"⟩ ∈ AL := AL_t (tb_3 (List.mem_of_getElem? (i := 215) (by decide +kernel))) rfl
theorem aw_696 : Cond.selects "SceneTimesModel" ⟨"SceneTimesModel", "noteAt", "(II)I"⟩ ⟨"SceneTimesModel", "noteAt", "(II)I"⟩ ∈ AL := AL_t (tb_3 (List.mem_of_getElem? (i := 216) (by decide +kernel))) rfl
theorem aw_697 : Cond.code ⟨"SceneTimesModel", "noteAt", "(II)I"⟩ prog_8_method_24_code 3 (some .int) ∈ AL := AL_t (tb_3 (List.mem_of_getElem? (i := 217) (rfl))) rfl
theorem aw_698 : Cond.methodLink "SceneTimesLaw" 110 ⟨"SceneTimesModel", "print", "()I"⟩ ∈ AL := AL_t (tb_3 (List.mem_of_getElem? (i := 218) (by decide +kernel))) rfl
theorem aw_699 : Cond.instanceMethod ⟨"SceneTimesModel", "print", "()I"⟩ ∈ AL := AL_t (tb_3 (List.mem_of_getElem? (i := 219) (by decide +kernel))) rfl
theorem aw_700 : Cond.selects "SceneTimesModel" ⟨"SceneTimesModel", "print", "()I"⟩ ⟨"SceneTimesModel", "print", "()I"⟩ ∈ AL := AL_t (tb_3 (List.mem_of_getElem? (i := 220) (by decide +kernel))) rfl
theorem aw_701 : Cond.code ⟨"SceneTimesModel", "print", "()I"⟩ prog_8_method_27_code 4 (some .int) ∈ AL := AL_t (tb_3 (List.mem_of_getElem? (i := 221) (rfl))) rfl
theorem aw_702 : Cond.methodLink "SceneTimesModel" 124 ⟨"SceneTimesModel", "number", "(II)V"⟩ ∈ AL := AL_t (tb_3 (List.mem_of_getElem? (i := 222) (by decide +kernel))) rfl
theorem aw_704 : Cond.instanceMethod ⟨"SceneTimesModel", "number", "(II)V"⟩ ∈ AL := AL_t (tb_3 (List.mem_of_getElem? (i := 224) (by decide +kernel))) rfl
theorem aw_705 : Cond.code ⟨"SceneTimesModel", "number", "(II)V"⟩ prog_8_method_26_code 5 none ∈ AL := AL_t (tb_3 (List.mem_of_getElem? (i := 225) (rfl))) rfl
theorem aw_706 : Cond.methodLink "SceneTimesModel" 120 ⟨"SceneTimesModel", "put", "(I)V"⟩ ∈ AL := AL_t (tb_3 (List.mem_of_getElem? (i := 226) (by decide +kernel))) rfl
theorem aw_708 : Cond.instanceMethod ⟨"SceneTimesModel", "put", "(I)V"⟩ ∈ AL := AL_t (tb_3 (List.mem_of_getElem? (i := 228) (by decide +kernel))) rfl
theorem aw_709 : Cond.code ⟨"SceneTimesModel", "put", "(I)V"⟩ prog_8_method_25_code 2 none ∈ AL := AL_t (tb_3 (List.mem_of_getElem? (i := 229) (rfl))) rfl
theorem aw_710 : Cond.methodLink "SceneTimesLaw" 113 ⟨"SceneTimesModel", "at", "(I)I"⟩ ∈ AL := AL_t (tb_3 (List.mem_of_getElem? (i := 230) (by decide +kernel))) rfl
theorem aw_711 : Cond.instanceMethod ⟨"SceneTimesModel", "at", "(I)I"⟩ ∈ AL := AL_t (tb_3 (List.mem_of_getElem? (i := 231) (by decide +kernel))) rfl
theorem aw_712 : Cond.selects "SceneTimesModel" ⟨"SceneTimesModel", "at", "(I)I"⟩ ⟨"SceneTimesModel", "at", "(I)I"⟩ ∈ AL := AL_t (tb_3 (List.mem_of_getElem? (i := 232) (by decide +kernel))) rfl
theorem aw_713 : Cond.code ⟨"SceneTimesModel", "at", "(I)I"⟩ prog_8_method_28_code 2 (some .int) ∈ AL := AL_t (tb_3 (List.mem_of_getElem? (i := 233) (rfl))) rfl
theorem aw_714 : Cond.methodLink "SceneTimesLaw" 116 ⟨"SceneTimesModel", "tick", "(I)I"⟩ ∈ AL := AL_t (tb_3 (List.mem_of_getElem? (i := 234) (by decide +kernel))) rfl
theorem aw_715 : Cond.instanceMethod ⟨"SceneTimesModel", "tick", "(I)I"⟩ ∈ AL := AL_t (tb_3 (List.mem_of_getElem? (i := 235) (by decide +kernel))) rfl
theorem aw_716 : Cond.selects "SceneTimesModel" ⟨"SceneTimesModel", "tick", "(I)I"⟩ ⟨"SceneTimesModel", "tick", "(I)I"⟩ ∈ AL := AL_t (tb_3 (List.mem_of_getElem? (i := 236) (by decide +kernel))) rfl
theorem aw_717 : Cond.code ⟨"SceneTimesModel", "tick", "(I)I"⟩ prog_8_method_29_code 2 (some .int) ∈ AL := AL_t (tb_3 (List.mem_of_getElem? (i := 237) (rfl))) rfl
theorem aw_718 : Cond.methodLink "SceneTimesLaw" 119 ⟨"SceneTimesModel", "count", "(I)I"⟩ ∈ AL := AL_t (tb_3 (List.mem_of_getElem? (i := 238) (by decide +kernel))) rfl
theorem aw_719 : Cond.instanceMethod ⟨"SceneTimesModel", "count", "(I)I"⟩ ∈ AL := AL_t (tb_3 (List.mem_of_getElem? (i := 239) (by decide +kernel))) rfl
theorem aw_720 : Cond.selects "SceneTimesModel" ⟨"SceneTimesModel", "count", "(I)I"⟩ ⟨"SceneTimesModel", "count", "(I)I"⟩ ∈ AL := AL_t (tb_4 (List.mem_of_getElem? (i := 0) (by decide +kernel))) rfl
theorem aw_721 : Cond.code ⟨"SceneTimesModel", "count", "(I)I"⟩ prog_8_method_30_code 5 (some .int) ∈ AL := AL_t (tb_4 (List.mem_of_getElem? (i := 1) (rfl))) rfl
theorem aw_722 : Cond.arrayClass .long ∈ AL := AL_t (tb_4 (List.mem_of_getElem? (i := 2) (by decide +kernel))) rfl
theorem aw_723 : Cond.sameMethod "java/lang/Throwable" "java/lang/Throwable" "fillInStackTrace" "(I)Ljava/lang/Throwable;" ∈ AL := AL_t (tb_4 (List.mem_of_getElem? (i := 3) (by decide +kernel))) rfl
