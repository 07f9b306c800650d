theorem inT1 {w : Cond} (h : w ∈ tables_1_1) (g : goodWord w = true) : w ∈ tb := tb_in (List.mem_append_right _ (show w ∈ tables_1 from (List.mem_append_left _ h))) g
theorem inT2 {w : Cond} (h : w ∈ tables_1_2) (g : goodWord w = true) : w ∈ tb := tb_in (List.mem_append_right _ (show w ∈ tables_1 from (List.mem_append_right _ (List.mem_append_left _ h)))) g
theorem inT3 {w : Cond} (h : w ∈ tables_1_3) (g : goodWord w = true) : w ∈ tb := tb_in (List.mem_append_right _ (show w ∈ tables_1 from (List.mem_append_right _ (List.mem_append_right _ (List.mem_append_left _ h))))) g
theorem inT4 {w : Cond} (h : w ∈ tables_1_4) (g : goodWord w = true) : w ∈ tb := tb_in (List.mem_append_right _ (show w ∈ tables_1 from (List.mem_append_right _ (List.mem_append_right _ (List.mem_append_right _ (List.mem_append_left _ h)))))) g
theorem inT5 {w : Cond} (h : w ∈ tables_1_5) (g : goodWord w = true) : w ∈ tb := tb_in (List.mem_append_right _ (show w ∈ tables_1 from (List.mem_append_right _ (List.mem_append_right _ (List.mem_append_right _ (List.mem_append_right _ h)))))) g
theorem k_0 : Cond.initialized "OldBeamsLaw" ∈ tb := inT1 (List.mem_of_getElem? (i := 0) rfl) rfl
theorem k_1 : Cond.initialized "OldBeams" ∈ tb := inT1 (List.mem_of_getElem? (i := 1) rfl) rfl
theorem k_2 : Cond.initialized "OldBeams$Frame" ∈ tb := inT1 (List.mem_of_getElem? (i := 2) rfl) rfl
theorem k_3 : Cond.initialized "OldBeams$Beam" ∈ tb := inT1 (List.mem_of_getElem? (i := 3) rfl) rfl
theorem k_4 : Cond.initialized "OldBeams$Looks" ∈ tb := inT1 (List.mem_of_getElem? (i := 4) rfl) rfl
theorem k_5 : Cond.initialized "OldBeams$Fraction" ∈ tb := inT1 (List.mem_of_getElem? (i := 5) rfl) rfl
theorem k_6 : Cond.initialized "OldBeamsModel" ∈ tb := inT1 (List.mem_of_getElem? (i := 6) rfl) rfl
theorem k_7 : Cond.initialized "java/lang/Integer" ∈ tb := inT1 (List.mem_of_getElem? (i := 7) rfl) rfl
theorem k_8 : Cond.initialized "java/lang/System" ∈ tb := inT1 (List.mem_of_getElem? (i := 8) rfl) rfl
theorem k_9 : Cond.initialized "java/lang/Math" ∈ tb := inT1 (List.mem_of_getElem? (i := 9) rfl) rfl
theorem k_10 : Cond.classLink "OldBeamsLaw" 7 "OldBeams" ∈ tb := inT1 (List.mem_of_getElem? (i := 10) rfl) rfl
theorem k_11 : Cond.instantiable "OldBeams" 7 ∈ tb := inT1 (List.mem_of_getElem? (i := 11) rfl) rfl
theorem k_12 : Cond.methodLink "OldBeamsLaw" 9 ⟨"OldBeams", "<init>", "()V"⟩ ∈ tb := inT1 (List.mem_of_getElem? (i := 12) rfl) rfl
theorem k_13 : Cond.instanceMethod ⟨"OldBeams", "<init>", "()V"⟩ ∈ tb := inT1 (List.mem_of_getElem? (i := 13) rfl) rfl
theorem k_14 : Cond.code ⟨"OldBeams", "<init>", "()V"⟩ prog_1_method_1_code 1 none ∈ tb := inT1 (List.mem_of_getElem? (i := 14) rfl) rfl
theorem k_15 : Cond.methodLink "OldBeams" 3 ⟨"java/lang/Object", "<init>", "()V"⟩ ∈ tb := inT1 (List.mem_of_getElem? (i := 15) rfl) rfl
theorem k_16 : Cond.instanceMethod ⟨"java/lang/Object", "<init>", "()V"⟩ ∈ tb := inT1 (List.mem_of_getElem? (i := 16) rfl) rfl
theorem k_17 : Cond.code ⟨"java/lang/Object", "<init>", "()V"⟩ object_method_1_code 1 none ∈ tb := inT1 (List.mem_of_getElem? (i := 17) rfl) rfl
theorem k_18 : Cond.classLink "OldBeams" 9 "OldBeams$Frame" ∈ tb := inT1 (List.mem_of_getElem? (i := 18) rfl) rfl
theorem k_19 : Cond.instantiable "OldBeams$Frame" 15 ∈ tb := inT1 (List.mem_of_getElem? (i := 19) rfl) rfl
theorem k_20 : Cond.methodLink "OldBeams" 11 ⟨"OldBeams$Frame", "<init>", "()V"⟩ ∈ tb := inT1 (List.mem_of_getElem? (i := 20) rfl) rfl
theorem k_21 : Cond.instanceMethod ⟨"OldBeams$Frame", "<init>", "()V"⟩ ∈ tb := inT1 (List.mem_of_getElem? (i := 21) rfl) rfl
theorem k_22 : Cond.code ⟨"OldBeams$Frame", "<init>", "()V"⟩ prog_4_method_1_code 2 none ∈ tb := inT1 (List.mem_of_getElem? (i := 22) rfl) rfl
theorem k_23 : Cond.methodLink "OldBeams$Frame" 3 ⟨"java/lang/Object", "<init>", "()V"⟩ ∈ tb := inT1 (List.mem_of_getElem? (i := 23) rfl) rfl
theorem k_24 : Cond.classLink "OldBeams$Frame" 9 "[[I" ∈ tb := inT1 (List.mem_of_getElem? (i := 24) rfl) rfl
theorem k_26 : Cond.classLink "OldBeams$Frame" 16 "OldBeams$Beam" ∈ tb := inT1 (List.mem_of_getElem? (i := 26) rfl) rfl
theorem k_28 : Cond.instantiable "OldBeams$Beam" 13 ∈ tb := inT1 (List.mem_of_getElem? (i := 28) rfl) rfl
theorem k_30 : Cond.instanceMethod ⟨"OldBeams$Beam", "<init>", "()V"⟩ ∈ tb := inT1 (List.mem_of_getElem? (i := 30) rfl) rfl
theorem k_31 : Cond.code ⟨"OldBeams$Beam", "<init>", "()V"⟩ prog_2_method_1_code 1 none ∈ tb := inT1 (List.mem_of_getElem? (i := 31) rfl) rfl
theorem k_32 : Cond.methodLink "OldBeams$Beam" 3 ⟨"java/lang/Object", "<init>", "()V"⟩ ∈ tb := inT1 (List.mem_of_getElem? (i := 32) rfl) rfl
theorem k_33 : Cond.fieldLink "OldBeams$Beam" 31 "OldBeams$Beam" "kind" "I" ∈ tb := inT1 (List.mem_of_getElem? (i := 33) rfl) rfl
theorem k_34 : Cond.fieldLink "OldBeams$Frame" 129 "OldBeams$Beam" "kind" "I" ∈ tb := inT1 (List.mem_of_getElem? (i := 34) rfl) rfl
theorem k_35 : Cond.fieldLink "OldBeams$Beam" 35 "OldBeams$Beam" "length" "I" ∈ tb := inT1 (List.mem_of_getElem? (i := 35) rfl) rfl
theorem k_36 : Cond.fieldLink "OldBeams$Frame" 58 "OldBeams$Beam" "length" "I" ∈ tb := inT1 (List.mem_of_getElem? (i := 36) rfl) rfl
theorem k_37 : Cond.fieldLink "OldBeams" 91 "OldBeams$Beam" "length" "I" ∈ tb := inT1 (List.mem_of_getElem? (i := 37) rfl) rfl
theorem k_38 : Cond.fieldLink "OldBeams$Beam" 38 "OldBeams$Beam" "width" "I" ∈ tb := inT1 (List.mem_of_getElem? (i := 38) rfl) rfl
theorem k_39 : Cond.fieldLink "OldBeams$Frame" 132 "OldBeams$Beam" "width" "I" ∈ tb := inT1 (List.mem_of_getElem? (i := 39) rfl) rfl
theorem k_40 : Cond.fieldLink "OldBeams$Beam" 41 "OldBeams$Beam" "height" "I" ∈ tb := inT1 (List.mem_of_getElem? (i := 40) rfl) rfl
theorem k_41 : Cond.fieldLink "OldBeams$Frame" 135 "OldBeams$Beam" "height" "I" ∈ tb := inT1 (List.mem_of_getElem? (i := 41) rfl) rfl
theorem k_42 : Cond.fieldLink "OldBeams" 101 "OldBeams$Beam" "isWet" "Z" ∈ tb := inT1 (List.mem_of_getElem? (i := 42) rfl) rfl
theorem k_43 : Cond.fieldLink "OldBeams$Frame" 149 "OldBeams$Beam" "isWet" "Z" ∈ tb := inT1 (List.mem_of_getElem? (i := 43) rfl) rfl
theorem k_44 : Cond.fieldLink "OldBeams$Beam" 9 "OldBeams$Beam" "place" "[I" ∈ tb := inT1 (List.mem_of_getElem? (i := 44) rfl) rfl
theorem k_45 : Cond.fieldLink "OldBeams" 84 "OldBeams$Beam" "place" "[I" ∈ tb := inT1 (List.mem_of_getElem? (i := 45) rfl) rfl
theorem k_46 : Cond.fieldLink "OldBeams$Beam" 15 "OldBeams$Beam" "on" "[I" ∈ tb := inT1 (List.mem_of_getElem? (i := 46) rfl) rfl
theorem k_47 : Cond.fieldLink "OldBeams" 94 "OldBeams$Beam" "on" "[I" ∈ tb := inT1 (List.mem_of_getElem? (i := 47) rfl) rfl
theorem k_48 : Cond.fieldLink "OldBeams$Frame" 75 "OldBeams$Beam" "on" "[I" ∈ tb := inT1 (List.mem_of_getElem? (i := 48) rfl) rfl
theorem k_49 : Cond.fieldLink "OldBeams$Beam" 18 "OldBeams$Beam" "where" "[I" ∈ tb := inT1 (List.mem_of_getElem? (i := 49) rfl) rfl
theorem k_50 : Cond.fieldLink "OldBeams$Frame" 123 "OldBeams$Beam" "where" "[I" ∈ tb := inT1 (List.mem_of_getElem? (i := 50) rfl) rfl
theorem k_51 : Cond.fieldLink "OldBeams$Beam" 21 "OldBeams$Beam" "loaded" "[J" ∈ tb := inT1 (List.mem_of_getElem? (i := 51) rfl) rfl
theorem k_52 : Cond.fieldLink "OldBeams$Frame" 68 "OldBeams$Beam" "loaded" "[J" ∈ tb := inT1 (List.mem_of_getElem? (i := 52) rfl) rfl
theorem k_53 : Cond.fieldLink "OldBeams$Beam" 25 "OldBeams$Beam" "forces" "[J" ∈ tb := inT1 (List.mem_of_getElem? (i := 53) rfl) rfl
theorem k_54 : Cond.fieldLink "OldBeams$Frame" 114 "OldBeams$Beam" "forces" "[J" ∈ tb := inT1 (List.mem_of_getElem? (i := 54) rfl) rfl
theorem k_55 : Cond.fieldLink "OldBeams$Beam" 28 "OldBeams$Beam" "push" "[J" ∈ tb := inT1 (List.mem_of_getElem? (i := 55) rfl) rfl
theorem k_56 : Cond.fieldLink "OldBeams" 151 "OldBeams$Beam" "push" "[J" ∈ tb := inT1 (List.mem_of_getElem? (i := 56) rfl) rfl
theorem k_57 : Cond.fieldLink "OldBeams$Frame" 126 "OldBeams$Beam" "push" "[J" ∈ tb := inT1 (List.mem_of_getElem? (i := 57) rfl) rfl
theorem k_58 : Cond.fieldLink "OldBeams$Beam" 61 "OldBeams$Beam" "greatestBending" "J" ∈ tb := inT1 (List.mem_of_getElem? (i := 58) rfl) rfl
theorem k_59 : Cond.fieldLink "OldBeams" 162 "OldBeams$Beam" "greatestBending" "J" ∈ tb := inT1 (List.mem_of_getElem? (i := 59) rfl) rfl
theorem k_60 : Cond.fieldLink "OldBeams$Frame" 142 "OldBeams$Beam" "greatestBending" "J" ∈ tb := inT1 (List.mem_of_getElem? (i := 60) rfl) rfl
theorem k_61 : Cond.fieldLink "OldBeams$Beam" 65 "OldBeams$Beam" "greatestPlace" "I" ∈ tb := inT1 (List.mem_of_getElem? (i := 61) rfl) rfl
theorem k_62 : Cond.fieldLink "OldBeams" 159 "OldBeams$Beam" "greatestPlace" "I" ∈ tb := inT1 (List.mem_of_getElem? (i := 62) rfl) rfl
theorem k_90 : Cond.arrayClass FieldType.int ∈ tb := inT1 (List.mem_of_getElem? (i := 90) rfl) rfl
theorem k_91 : Cond.arrayClass FieldType.boolean ∈ tb := inT1 (List.mem_of_getElem? (i := 91) rfl) rfl
theorem k_92 : Cond.arrayClass FieldType.long ∈ tb := inT1 (List.mem_of_getElem? (i := 92) rfl) rfl
theorem k_93 : Cond.fieldLink "OldBeams$Frame" 11 "OldBeams$Frame" "kinds" "[[I" ∈ tb := inT1 (List.mem_of_getElem? (i := 93) rfl) rfl
theorem k_94 : Cond.fieldLink "OldBeams" 49 "OldBeams$Frame" "kinds" "[[I" ∈ tb := inT1 (List.mem_of_getElem? (i := 94) rfl) rfl
theorem k_95 : Cond.fieldLink "OldBeams$Frame" 18 "OldBeams$Frame" "beams" "[LOldBeams$Beam;" ∈ tb := inT1 (List.mem_of_getElem? (i := 95) rfl) rfl
theorem k_96 : Cond.fieldLink "OldBeams" 75 "OldBeams$Frame" "beams" "[LOldBeams$Beam;" ∈ tb := inT1 (List.mem_of_getElem? (i := 96) rfl) rfl
theorem k_97 : Cond.fieldLink "OldBeams$Frame" 46 "OldBeams$Frame" "beamCount" "I" ∈ tb := inT1 (List.mem_of_getElem? (i := 97) rfl) rfl
theorem k_98 : Cond.fieldLink "OldBeams" 57 "OldBeams$Frame" "beamCount" "I" ∈ tb := inT1 (List.mem_of_getElem? (i := 98) rfl) rfl
theorem k_99 : Cond.fieldLink "OldBeams" 130 "OldBeams$Frame" "fallen" "I" ∈ tb := inT1 (List.mem_of_getElem? (i := 99) rfl) rfl
theorem k_100 : Cond.fieldLink "OldBeams$Frame" 86 "OldBeams$Frame" "fallen" "I" ∈ tb := inT1 (List.mem_of_getElem? (i := 100) rfl) rfl
theorem k_101 : Cond.fieldLink "OldBeams$Frame" 22 "OldBeams$Frame" "loadBeam" "[I" ∈ tb := inT1 (List.mem_of_getElem? (i := 101) rfl) rfl
theorem k_102 : Cond.fieldLink "OldBeams$Frame" 26 "OldBeams$Frame" "loadPlace" "[I" ∈ tb := inT1 (List.mem_of_getElem? (i := 102) rfl) rfl
theorem k_103 : Cond.fieldLink "OldBeams$Frame" 29 "OldBeams$Frame" "loadWeight" "[I" ∈ tb := inT1 (List.mem_of_getElem? (i := 103) rfl) rfl
theorem k_104 : Cond.fieldLink "OldBeams" 127 "OldBeams$Frame" "loadWeight" "[I" ∈ tb := inT1 (List.mem_of_getElem? (i := 104) rfl) rfl
theorem k_105 : Cond.fieldLink "OldBeams$Frame" 32 "OldBeams$Frame" "loadIsOn" "[Z" ∈ tb := inT1 (List.mem_of_getElem? (i := 105) rfl) rfl
theorem k_106 : Cond.fieldLink "OldBeams" 119 "OldBeams$Frame" "loadIsOn" "[Z" ∈ tb := inT1 (List.mem_of_getElem? (i := 106) rfl) rfl
theorem k_107 : Cond.fieldLink "OldBeams$Frame" 65 "OldBeams$Frame" "loadCount" "I" ∈ tb := inT1 (List.mem_of_getElem? (i := 107) rfl) rfl
theorem k_108 : Cond.fieldLink "OldBeams" 112 "OldBeams$Frame" "loadCount" "I" ∈ tb := inT1 (List.mem_of_getElem? (i := 108) rfl) rfl
theorem k_109 : Cond.fieldLink "OldBeams$Frame" 36 "OldBeams$Frame" "propBeam" "[I" ∈ tb := inT1 (List.mem_of_getElem? (i := 109) rfl) rfl
theorem k_110 : Cond.fieldLink "OldBeams$Frame" 39 "OldBeams$Frame" "propPlace" "[I" ∈ tb := inT1 (List.mem_of_getElem? (i := 110) rfl) rfl
theorem k_111 : Cond.fieldLink "OldBeams$Frame" 42 "OldBeams$Frame" "propPush" "[I" ∈ tb := inT1 (List.mem_of_getElem? (i := 111) rfl) rfl
theorem k_112 : Cond.fieldLink "OldBeams$Frame" 72 "OldBeams$Frame" "propCount" "I" ∈ tb := inT1 (List.mem_of_getElem? (i := 112) rfl) rfl
theorem k_113 : Cond.fieldLink "OldBeams" 251 "OldBeams$Frame" "propCount" "I" ∈ tb := inT1 (List.mem_of_getElem? (i := 113) rfl) rfl
theorem k_114 : Cond.fieldLink "OldBeams$Frame" 93 "OldBeams$Frame" "setProps" "I" ∈ tb := inT1 (List.mem_of_getElem? (i := 114) rfl) rfl
theorem k_115 : Cond.fieldLink "OldBeams" 260 "OldBeams$Frame" "setProps" "I" ∈ tb := inT1 (List.mem_of_getElem? (i := 115) rfl) rfl
theorem k_116 : Cond.fieldLink "OldBeams$Frame" 159 "OldBeams$Frame" "triedDown" "I" ∈ tb := inT1 (List.mem_of_getElem? (i := 116) rfl) rfl
theorem k_117 : Cond.fieldLink "OldBeams" 248 "OldBeams$Frame" "triedDown" "I" ∈ tb := inT1 (List.mem_of_getElem? (i := 117) rfl) rfl
theorem k_149 : Cond.classLink "OldBeams" 16 "OldBeams$Looks" ∈ tb := inT1 (List.mem_of_getElem? (i := 149) rfl) rfl
theorem k_150 : Cond.instantiable "OldBeams$Looks" 9 ∈ tb := inT1 (List.mem_of_getElem? (i := 150) rfl) rfl
theorem k_151 : Cond.methodLink "OldBeams" 18 ⟨"OldBeams$Looks", "<init>", "()V"⟩ ∈ tb := inT1 (List.mem_of_getElem? (i := 151) rfl) rfl
theorem k_152 : Cond.instanceMethod ⟨"OldBeams$Looks", "<init>", "()V"⟩ ∈ tb := inT1 (List.mem_of_getElem? (i := 152) rfl) rfl
theorem k_153 : Cond.code ⟨"OldBeams$Looks", "<init>", "()V"⟩ prog_5_method_1_code 3 none ∈ tb := inT1 (List.mem_of_getElem? (i := 153) rfl) rfl
theorem k_154 : Cond.methodLink "OldBeams$Looks" 3 ⟨"java/lang/Object", "<init>", "()V"⟩ ∈ tb := inT1 (List.mem_of_getElem? (i := 154) rfl) rfl
theorem k_155 : Cond.classLink "OldBeams$Looks" 9 "[[I" ∈ tb := inT1 (List.mem_of_getElem? (i := 155) rfl) rfl
theorem k_156 : Cond.fieldLink "OldBeams$Looks" 11 "OldBeams$Looks" "weights" "[[I" ∈ tb := inT1 (List.mem_of_getElem? (i := 156) rfl) rfl
theorem k_157 : Cond.fieldLink "OldBeams" 179 "OldBeams$Looks" "weights" "[[I" ∈ tb := inT1 (List.mem_of_getElem? (i := 157) rfl) rfl
theorem k_158 : Cond.fieldLink "OldBeams$Looks" 16 "OldBeams$Looks" "tools" "[[I" ∈ tb := inT1 (List.mem_of_getElem? (i := 158) rfl) rfl
theorem k_159 : Cond.fieldLink "OldBeams" 188 "OldBeams$Looks" "tools" "[[I" ∈ tb := inT1 (List.mem_of_getElem? (i := 159) rfl) rfl
theorem k_160 : Cond.fieldLink "OldBeams$Looks" 19 "OldBeams$Looks" "lookBeam" "[I" ∈ tb := inT1 (List.mem_of_getElem? (i := 160) rfl) rfl
theorem k_161 : Cond.fieldLink "OldBeams$Looks" 23 "OldBeams$Looks" "lookTool" "[I" ∈ tb := inT1 (List.mem_of_getElem? (i := 161) rfl) rfl
theorem k_162 : Cond.fieldLink "OldBeams$Looks" 26 "OldBeams$Looks" "lookOutcome" "[I" ∈ tb := inT1 (List.mem_of_getElem? (i := 162) rfl) rfl
theorem k_163 : Cond.fieldLink "OldBeams$Looks" 29 "OldBeams$Looks" "lookYear" "[I" ∈ tb := inT1 (List.mem_of_getElem? (i := 163) rfl) rfl
theorem k_164 : Cond.fieldLink "OldBeams$Looks" 39 "OldBeams$Looks" "lookCount" "I" ∈ tb := inT1 (List.mem_of_getElem? (i := 164) rfl) rfl
theorem k_165 : Cond.fieldLink "OldBeams" 195 "OldBeams$Looks" "lookCount" "I" ∈ tb := inT1 (List.mem_of_getElem? (i := 165) rfl) rfl
theorem k_166 : Cond.fieldLink "OldBeams$Looks" 32 "OldBeams$Looks" "known" "[J" ∈ tb := inT1 (List.mem_of_getElem? (i := 166) rfl) rfl
theorem k_167 : Cond.fieldLink "OldBeams" 209 "OldBeams$Looks" "known" "[J" ∈ tb := inT1 (List.mem_of_getElem? (i := 167) rfl) rfl
theorem k_168 : Cond.fieldLink "OldBeams$Looks" 36 "OldBeams$Looks" "next" "[J" ∈ tb := inT1 (List.mem_of_getElem? (i := 168) rfl) rfl
theorem k_188 : Cond.classLink "OldBeams" 23 "OldBeams$Fraction" ∈ tb := inT1 (List.mem_of_getElem? (i := 188) rfl) rfl
theorem k_189 : Cond.instantiable "OldBeams$Fraction" 2 ∈ tb := inT1 (List.mem_of_getElem? (i := 189) rfl) rfl
theorem k_191 : Cond.instanceMethod ⟨"OldBeams$Fraction", "<init>", "()V"⟩ ∈ tb := inT1 (List.mem_of_getElem? (i := 191) rfl) rfl
theorem k_192 : Cond.code ⟨"OldBeams$Fraction", "<init>", "()V"⟩ prog_3_method_1_code 1 none ∈ tb := inT1 (List.mem_of_getElem? (i := 192) rfl) rfl
theorem k_193 : Cond.methodLink "OldBeams$Fraction" 1 ⟨"java/lang/Object", "<init>", "()V"⟩ ∈ tb := inT1 (List.mem_of_getElem? (i := 193) rfl) rfl
theorem k_194 : Cond.fieldLink "OldBeams$Fraction" 7 "OldBeams$Fraction" "above" "J" ∈ tb := inT1 (List.mem_of_getElem? (i := 194) rfl) rfl
theorem k_195 : Cond.fieldLink "OldBeams$Fraction" 13 "OldBeams$Fraction" "below" "J" ∈ tb := inT1 (List.mem_of_getElem? (i := 195) rfl) rfl
theorem k_201 : Cond.fieldLink "OldBeams" 12 "OldBeams" "frame" "LOldBeams$Frame;" ∈ tb := inT1 (List.mem_of_getElem? (i := 201) rfl) rfl
theorem k_202 : Cond.fieldLink "OldBeams" 19 "OldBeams" "looks" "LOldBeams$Looks;" ∈ tb := inT1 (List.mem_of_getElem? (i := 202) rfl) rfl
theorem k_203 : Cond.fieldLink "OldBeams" 26 "OldBeams" "fraction" "LOldBeams$Fraction;" ∈ tb := inT1 (List.mem_of_getElem? (i := 203) rfl) rfl
theorem k_204 : Cond.fieldLink "OldBeams" 30 "OldBeams" "best" "LOldBeams$Fraction;" ∈ tb := inT1 (List.mem_of_getElem? (i := 204) rfl) rfl
theorem k_205 : Cond.fieldLink "OldBeams" 33 "OldBeams" "prices" "[I" ∈ tb := inT1 (List.mem_of_getElem? (i := 205) rfl) rfl
theorem k_206 : Cond.fieldLink "OldBeams" 37 "OldBeams" "shares" "[I" ∈ tb := inT1 (List.mem_of_getElem? (i := 206) rfl) rfl
theorem k_207 : Cond.fieldLink "OldBeams" 40 "OldBeams" "fallOrder" "[I" ∈ tb := inT1 (List.mem_of_getElem? (i := 207) rfl) rfl
theorem k_223 : Cond.methodLink "OldBeamsLaw" 13 ⟨"OldBeams", "kind", "(III)I"⟩ ∈ tb := inT1 (List.mem_of_getElem? (i := 223) rfl) rfl
theorem k_224 : Cond.instanceMethod ⟨"OldBeams", "kind", "(III)I"⟩ ∈ tb := inT1 (List.mem_of_getElem? (i := 224) rfl) rfl
theorem k_225 : Cond.selects "OldBeams" ⟨"OldBeams", "kind", "(III)I"⟩ ⟨"OldBeams", "kind", "(III)I"⟩ ∈ tb := inT1 (List.mem_of_getElem? (i := 225) rfl) rfl
theorem k_226 : Cond.code ⟨"OldBeams", "kind", "(III)I"⟩ prog_1_method_2_code 6 (some .int) ∈ tb := inT1 (List.mem_of_getElem? (i := 226) rfl) rfl
theorem k_227 : Cond.methodLink "OldBeams" 43 ⟨"OldBeams", "within", "(III)Z"⟩ ∈ tb := inT1 (List.mem_of_getElem? (i := 227) rfl) rfl
theorem k_228 : Cond.static ⟨"OldBeams", "within", "(III)Z"⟩ ∈ tb := inT1 (List.mem_of_getElem? (i := 228) rfl) rfl
theorem k_229 : Cond.code ⟨"OldBeams", "within", "(III)Z"⟩ prog_1_method_37_code 3 (some .boolean) ∈ tb := inT1 (List.mem_of_getElem? (i := 229) rfl) rfl
theorem k_230 : Cond.constant "OldBeams" 47 (-900001) ∈ tb := inT1 (List.mem_of_getElem? (i := 230) rfl) rfl
theorem k_231 : Cond.constant "OldBeams" 48 (-900002) ∈ tb := inT1 (List.mem_of_getElem? (i := 231) rfl) rfl
theorem k_232 : Cond.methodLink "OldBeamsLaw" 18 ⟨"OldBeams", "beam", "(IIIII)I"⟩ ∈ tb := inT1 (List.mem_of_getElem? (i := 232) rfl) rfl
theorem k_233 : Cond.instanceMethod ⟨"OldBeams", "beam", "(IIIII)I"⟩ ∈ tb := inT1 (List.mem_of_getElem? (i := 233) rfl) rfl
theorem k_234 : Cond.selects "OldBeams" ⟨"OldBeams", "beam", "(IIIII)I"⟩ ⟨"OldBeams", "beam", "(IIIII)I"⟩ ∈ tb := inT1 (List.mem_of_getElem? (i := 234) rfl) rfl
theorem k_235 : Cond.code ⟨"OldBeams", "beam", "(IIIII)I"⟩ prog_1_method_3_code 6 (some .int) ∈ tb := inT1 (List.mem_of_getElem? (i := 235) rfl) rfl
theorem k_236 : Cond.methodLink "OldBeams" 53 ⟨"OldBeams", "isYear", "(I)Z"⟩ ∈ tb := inT1 (List.mem_of_getElem? (i := 236) rfl) rfl
theorem k_237 : Cond.static ⟨"OldBeams", "isYear", "(I)Z"⟩ ∈ tb := inT1 (List.mem_of_getElem? (i := 237) rfl) rfl
theorem k_238 : Cond.code ⟨"OldBeams", "isYear", "(I)Z"⟩ prog_1_method_38_code 1 (some .boolean) ∈ tb := inT1 (List.mem_of_getElem? (i := 238) rfl) rfl
theorem k_239 : Cond.constant "OldBeams" 61 (-900004) ∈ tb := inT1 (List.mem_of_getElem? (i := 239) rfl) rfl
theorem k_240 : Cond.methodLink "OldBeams" 62 ⟨"OldBeams$Frame", "addBeam", "(IIII)I"⟩ ∈ tb := inT2 (List.mem_of_getElem? (i := 0) rfl) rfl
theorem k_241 : Cond.instanceMethod ⟨"OldBeams$Frame", "addBeam", "(IIII)I"⟩ ∈ tb := inT2 (List.mem_of_getElem? (i := 1) rfl) rfl
theorem k_242 : Cond.selects "OldBeams$Frame" ⟨"OldBeams$Frame", "addBeam", "(IIII)I"⟩ ⟨"OldBeams$Frame", "addBeam", "(IIII)I"⟩ ∈ tb := inT2 (List.mem_of_getElem? (i := 2) rfl) rfl
theorem k_243 : Cond.code ⟨"OldBeams$Frame", "addBeam", "(IIII)I"⟩ prog_4_method_4_code 6 (some .int) ∈ tb := inT2 (List.mem_of_getElem? (i := 3) rfl) rfl
theorem k_244 : Cond.methodLink "OldBeams$Frame" 61 ⟨"OldBeams$Beam", "begin", "(IIII)V"⟩ ∈ tb := inT2 (List.mem_of_getElem? (i := 4) rfl) rfl
theorem k_245 : Cond.instanceMethod ⟨"OldBeams$Beam", "begin", "(IIII)V"⟩ ∈ tb := inT2 (List.mem_of_getElem? (i := 5) rfl) rfl
theorem k_246 : Cond.selects "OldBeams$Beam" ⟨"OldBeams$Beam", "begin", "(IIII)V"⟩ ⟨"OldBeams$Beam", "begin", "(IIII)V"⟩ ∈ tb := inT2 (List.mem_of_getElem? (i := 6) rfl) rfl
theorem k_247 : Cond.code ⟨"OldBeams$Beam", "begin", "(IIII)V"⟩ prog_2_method_2_code 5 none ∈ tb := inT2 (List.mem_of_getElem? (i := 7) rfl) rfl
theorem k_248 : Cond.constant "OldBeams$Beam" 44 (-900009) ∈ tb := inT2 (List.mem_of_getElem? (i := 8) rfl) rfl
theorem k_249 : Cond.methodLink "OldBeams$Beam" 45 ⟨"OldBeams$Beam", "putSeat", "(IIII)V"⟩ ∈ tb := inT2 (List.mem_of_getElem? (i := 9) rfl) rfl
theorem k_250 : Cond.instanceMethod ⟨"OldBeams$Beam", "putSeat", "(IIII)V"⟩ ∈ tb := inT2 (List.mem_of_getElem? (i := 10) rfl) rfl
theorem k_251 : Cond.selects "OldBeams$Beam" ⟨"OldBeams$Beam", "putSeat", "(IIII)V"⟩ ⟨"OldBeams$Beam", "putSeat", "(IIII)V"⟩ ∈ tb := inT2 (List.mem_of_getElem? (i := 11) rfl) rfl
theorem k_252 : Cond.code ⟨"OldBeams$Beam", "putSeat", "(IIII)V"⟩ prog_2_method_4_code 5 none ∈ tb := inT2 (List.mem_of_getElem? (i := 12) rfl) rfl
theorem k_253 : Cond.methodLink "OldBeamsLaw" 23 ⟨"OldBeams", "seat", "(IIIII)I"⟩ ∈ tb := inT2 (List.mem_of_getElem? (i := 13) rfl) rfl
theorem k_254 : Cond.instanceMethod ⟨"OldBeams", "seat", "(IIIII)I"⟩ ∈ tb := inT2 (List.mem_of_getElem? (i := 14) rfl) rfl
theorem k_255 : Cond.selects "OldBeams" ⟨"OldBeams", "seat", "(IIIII)I"⟩ ⟨"OldBeams", "seat", "(IIIII)I"⟩ ∈ tb := inT2 (List.mem_of_getElem? (i := 15) rfl) rfl
theorem k_256 : Cond.code ⟨"OldBeams", "seat", "(IIIII)I"⟩ prog_1_method_4_code 8 (some .int) ∈ tb := inT2 (List.mem_of_getElem? (i := 16) rfl) rfl
theorem k_257 : Cond.methodLink "OldBeams" 66 ⟨"OldBeams$Frame", "hasBeam", "(I)Z"⟩ ∈ tb := inT2 (List.mem_of_getElem? (i := 17) rfl) rfl
theorem k_258 : Cond.instanceMethod ⟨"OldBeams$Frame", "hasBeam", "(I)Z"⟩ ∈ tb := inT2 (List.mem_of_getElem? (i := 18) rfl) rfl
theorem k_259 : Cond.selects "OldBeams$Frame" ⟨"OldBeams$Frame", "hasBeam", "(I)Z"⟩ ⟨"OldBeams$Frame", "hasBeam", "(I)Z"⟩ ∈ tb := inT2 (List.mem_of_getElem? (i := 19) rfl) rfl
theorem k_260 : Cond.code ⟨"OldBeams$Frame", "hasBeam", "(I)Z"⟩ prog_4_method_2_code 2 (some .boolean) ∈ tb := inT2 (List.mem_of_getElem? (i := 20) rfl) rfl
theorem k_262 : Cond.methodLink "OldBeams" 69 ⟨"OldBeams$Frame", "hasPlace", "(II)Z"⟩ ∈ tb := inT2 (List.mem_of_getElem? (i := 22) rfl) rfl
theorem k_263 : Cond.instanceMethod ⟨"OldBeams$Frame", "hasPlace", "(II)Z"⟩ ∈ tb := inT2 (List.mem_of_getElem? (i := 23) rfl) rfl
theorem k_264 : Cond.selects "OldBeams$Frame" ⟨"OldBeams$Frame", "hasPlace", "(II)Z"⟩ ⟨"OldBeams$Frame", "hasPlace", "(II)Z"⟩ ∈ tb := inT2 (List.mem_of_getElem? (i := 24) rfl) rfl
theorem k_265 : Cond.code ⟨"OldBeams$Frame", "hasPlace", "(II)Z"⟩ prog_4_method_3_code 3 (some .boolean) ∈ tb := inT2 (List.mem_of_getElem? (i := 25) rfl) rfl
theorem k_266 : Cond.methodLink "OldBeams$Frame" 54 ⟨"OldBeams$Frame", "hasBeam", "(I)Z"⟩ ∈ tb := inT2 (List.mem_of_getElem? (i := 26) rfl) rfl
theorem k_267 : Cond.constant "OldBeams" 73 (-900009) ∈ tb := inT2 (List.mem_of_getElem? (i := 27) rfl) rfl
theorem k_268 : Cond.constant "OldBeams" 74 (-900003) ∈ tb := inT2 (List.mem_of_getElem? (i := 28) rfl) rfl
theorem k_269 : Cond.methodLink "OldBeams" 79 ⟨"OldBeams$Beam", "mayPutSeat", "(II)Z"⟩ ∈ tb := inT2 (List.mem_of_getElem? (i := 29) rfl) rfl
theorem k_270 : Cond.instanceMethod ⟨"OldBeams$Beam", "mayPutSeat", "(II)Z"⟩ ∈ tb := inT2 (List.mem_of_getElem? (i := 30) rfl) rfl
theorem k_271 : Cond.selects "OldBeams$Beam" ⟨"OldBeams$Beam", "mayPutSeat", "(II)Z"⟩ ⟨"OldBeams$Beam", "mayPutSeat", "(II)Z"⟩ ∈ tb := inT2 (List.mem_of_getElem? (i := 31) rfl) rfl
theorem k_272 : Cond.code ⟨"OldBeams$Beam", "mayPutSeat", "(II)Z"⟩ prog_2_method_3_code 5 (some .boolean) ∈ tb := inT2 (List.mem_of_getElem? (i := 32) rfl) rfl
theorem k_273 : Cond.methodLink "OldBeams" 87 ⟨"OldBeams$Beam", "putSeat", "(IIII)V"⟩ ∈ tb := inT2 (List.mem_of_getElem? (i := 33) rfl) rfl
theorem k_274 : Cond.methodLink "OldBeamsLaw" 27 ⟨"OldBeams", "about", "(II)I"⟩ ∈ tb := inT2 (List.mem_of_getElem? (i := 34) rfl) rfl
theorem k_275 : Cond.instanceMethod ⟨"OldBeams", "about", "(II)I"⟩ ∈ tb := inT2 (List.mem_of_getElem? (i := 35) rfl) rfl
theorem k_276 : Cond.selects "OldBeams" ⟨"OldBeams", "about", "(II)I"⟩ ⟨"OldBeams", "about", "(II)I"⟩ ∈ tb := inT2 (List.mem_of_getElem? (i := 36) rfl) rfl
theorem k_277 : Cond.code ⟨"OldBeams", "about", "(II)I"⟩ prog_1_method_5_code 4 (some .int) ∈ tb := inT2 (List.mem_of_getElem? (i := 37) rfl) rfl
theorem k_278 : Cond.methodLink "OldBeams" 97 ⟨"OldBeams$Frame", "wholeStrength", "(I)I"⟩ ∈ tb := inT2 (List.mem_of_getElem? (i := 38) rfl) rfl
theorem k_279 : Cond.instanceMethod ⟨"OldBeams$Frame", "wholeStrength", "(I)I"⟩ ∈ tb := inT2 (List.mem_of_getElem? (i := 39) rfl) rfl
theorem k_280 : Cond.selects "OldBeams$Frame" ⟨"OldBeams$Frame", "wholeStrength", "(I)I"⟩ ⟨"OldBeams$Frame", "wholeStrength", "(I)I"⟩ ∈ tb := inT2 (List.mem_of_getElem? (i := 40) rfl) rfl
theorem k_281 : Cond.code ⟨"OldBeams$Frame", "wholeStrength", "(I)I"⟩ prog_4_method_17_code 3 (some .int) ∈ tb := inT2 (List.mem_of_getElem? (i := 41) rfl) rfl
theorem k_282 : Cond.methodLink "OldBeams" 105 ⟨"OldBeams", "asNumber", "(Z)I"⟩ ∈ tb := inT2 (List.mem_of_getElem? (i := 42) rfl) rfl
theorem k_283 : Cond.static ⟨"OldBeams", "asNumber", "(Z)I"⟩ ∈ tb := inT2 (List.mem_of_getElem? (i := 43) rfl) rfl
theorem k_284 : Cond.code ⟨"OldBeams", "asNumber", "(Z)I"⟩ prog_1_method_42_code 1 (some .int) ∈ tb := inT2 (List.mem_of_getElem? (i := 44) rfl) rfl
theorem k_285 : Cond.methodLink "OldBeams" 109 ⟨"OldBeams$Frame", "isDown", "(I)Z"⟩ ∈ tb := inT2 (List.mem_of_getElem? (i := 45) rfl) rfl
theorem k_286 : Cond.instanceMethod ⟨"OldBeams$Frame", "isDown", "(I)Z"⟩ ∈ tb := inT2 (List.mem_of_getElem? (i := 46) rfl) rfl
theorem k_287 : Cond.selects "OldBeams$Frame" ⟨"OldBeams$Frame", "isDown", "(I)Z"⟩ ⟨"OldBeams$Frame", "isDown", "(I)Z"⟩ ∈ tb := inT2 (List.mem_of_getElem? (i := 47) rfl) rfl
theorem k_288 : Cond.code ⟨"OldBeams$Frame", "isDown", "(I)Z"⟩ prog_4_method_12_code 2 (some .boolean) ∈ tb := inT2 (List.mem_of_getElem? (i := 48) rfl) rfl
theorem k_289 : Cond.methodLink "OldBeams$Frame" 89 ⟨"OldBeams$Frame", "downBy", "(I)I"⟩ ∈ tb := inT2 (List.mem_of_getElem? (i := 49) rfl) rfl
theorem k_290 : Cond.instanceMethod ⟨"OldBeams$Frame", "downBy", "(I)I"⟩ ∈ tb := inT2 (List.mem_of_getElem? (i := 50) rfl) rfl
theorem k_291 : Cond.selects "OldBeams$Frame" ⟨"OldBeams$Frame", "downBy", "(I)I"⟩ ⟨"OldBeams$Frame", "downBy", "(I)I"⟩ ∈ tb := inT2 (List.mem_of_getElem? (i := 51) rfl) rfl
theorem k_292 : Cond.code ⟨"OldBeams$Frame", "downBy", "(I)I"⟩ prog_4_method_10_code 5 (some .int) ∈ tb := inT2 (List.mem_of_getElem? (i := 52) rfl) rfl
theorem k_293 : Cond.methodLink "OldBeams$Frame" 78 ⟨"OldBeams$Frame", "restsOn", "(II)Z"⟩ ∈ tb := inT2 (List.mem_of_getElem? (i := 53) rfl) rfl
theorem k_294 : Cond.static ⟨"OldBeams$Frame", "restsOn", "(II)Z"⟩ ∈ tb := inT2 (List.mem_of_getElem? (i := 54) rfl) rfl
theorem k_295 : Cond.code ⟨"OldBeams$Frame", "restsOn", "(II)Z"⟩ prog_4_method_11_code 2 (some .boolean) ∈ tb := inT2 (List.mem_of_getElem? (i := 55) rfl) rfl
theorem k_296 : Cond.constant "OldBeams$Frame" 82 (-900009) ∈ tb := inT2 (List.mem_of_getElem? (i := 56) rfl) rfl
theorem k_298 : Cond.static ⟨"OldBeams", "isIn", "(II)Z"⟩ ∈ tb := inT2 (List.mem_of_getElem? (i := 58) rfl) rfl
theorem k_299 : Cond.code ⟨"OldBeams", "isIn", "(II)Z"⟩ prog_1_method_41_code 2 (some .boolean) ∈ tb := inT2 (List.mem_of_getElem? (i := 59) rfl) rfl
theorem k_300 : Cond.methodLink "OldBeamsLaw" 32 ⟨"OldBeams", "wet", "(IZ)I"⟩ ∈ tb := inT2 (List.mem_of_getElem? (i := 60) rfl) rfl
theorem k_301 : Cond.instanceMethod ⟨"OldBeams", "wet", "(IZ)I"⟩ ∈ tb := inT2 (List.mem_of_getElem? (i := 61) rfl) rfl
theorem k_302 : Cond.selects "OldBeams" ⟨"OldBeams", "wet", "(IZ)I"⟩ ⟨"OldBeams", "wet", "(IZ)I"⟩ ∈ tb := inT2 (List.mem_of_getElem? (i := 62) rfl) rfl
theorem k_303 : Cond.code ⟨"OldBeams", "wet", "(IZ)I"⟩ prog_1_method_6_code 5 (some .int) ∈ tb := inT2 (List.mem_of_getElem? (i := 63) rfl) rfl
theorem k_304 : Cond.methodLink "OldBeamsLaw" 37 ⟨"OldBeams", "load", "(III)I"⟩ ∈ tb := inT2 (List.mem_of_getElem? (i := 64) rfl) rfl
theorem k_305 : Cond.instanceMethod ⟨"OldBeams", "load", "(III)I"⟩ ∈ tb := inT2 (List.mem_of_getElem? (i := 65) rfl) rfl
theorem k_306 : Cond.selects "OldBeams" ⟨"OldBeams", "load", "(III)I"⟩ ⟨"OldBeams", "load", "(III)I"⟩ ∈ tb := inT2 (List.mem_of_getElem? (i := 66) rfl) rfl
theorem k_307 : Cond.code ⟨"OldBeams", "load", "(III)I"⟩ prog_1_method_7_code 4 (some .int) ∈ tb := inT2 (List.mem_of_getElem? (i := 67) rfl) rfl
theorem k_308 : Cond.methodLink "OldBeams" 115 ⟨"OldBeams$Frame", "addLoad", "(III)I"⟩ ∈ tb := inT2 (List.mem_of_getElem? (i := 68) rfl) rfl
theorem k_309 : Cond.instanceMethod ⟨"OldBeams$Frame", "addLoad", "(III)I"⟩ ∈ tb := inT2 (List.mem_of_getElem? (i := 69) rfl) rfl
theorem k_310 : Cond.selects "OldBeams$Frame" ⟨"OldBeams$Frame", "addLoad", "(III)I"⟩ ⟨"OldBeams$Frame", "addLoad", "(III)I"⟩ ∈ tb := inT2 (List.mem_of_getElem? (i := 70) rfl) rfl
theorem k_311 : Cond.code ⟨"OldBeams$Frame", "addLoad", "(III)I"⟩ prog_4_method_5_code 5 (some .int) ∈ tb := inT2 (List.mem_of_getElem? (i := 71) rfl) rfl
theorem k_312 : Cond.methodLink "OldBeamsLaw" 41 ⟨"OldBeams", "takeOff", "(I)I"⟩ ∈ tb := inT2 (List.mem_of_getElem? (i := 72) rfl) rfl
theorem k_313 : Cond.instanceMethod ⟨"OldBeams", "takeOff", "(I)I"⟩ ∈ tb := inT2 (List.mem_of_getElem? (i := 73) rfl) rfl
theorem k_314 : Cond.selects "OldBeams" ⟨"OldBeams", "takeOff", "(I)I"⟩ ⟨"OldBeams", "takeOff", "(I)I"⟩ ∈ tb := inT2 (List.mem_of_getElem? (i := 74) rfl) rfl
theorem k_315 : Cond.code ⟨"OldBeams", "takeOff", "(I)I"⟩ prog_1_method_8_code 2 (some .int) ∈ tb := inT2 (List.mem_of_getElem? (i := 75) rfl) rfl
theorem k_316 : Cond.methodLink "OldBeams" 123 ⟨"OldBeams$Frame", "removeLoad", "(I)V"⟩ ∈ tb := inT2 (List.mem_of_getElem? (i := 76) rfl) rfl
theorem k_317 : Cond.instanceMethod ⟨"OldBeams$Frame", "removeLoad", "(I)V"⟩ ∈ tb := inT2 (List.mem_of_getElem? (i := 77) rfl) rfl
theorem k_318 : Cond.selects "OldBeams$Frame" ⟨"OldBeams$Frame", "removeLoad", "(I)V"⟩ ⟨"OldBeams$Frame", "removeLoad", "(I)V"⟩ ∈ tb := inT2 (List.mem_of_getElem? (i := 78) rfl) rfl
theorem k_319 : Cond.code ⟨"OldBeams$Frame", "removeLoad", "(I)V"⟩ prog_4_method_6_code 2 none ∈ tb := inT2 (List.mem_of_getElem? (i := 79) rfl) rfl
theorem k_320 : Cond.methodLink "OldBeamsLaw" 46 ⟨"OldBeams", "fall", "(I)I"⟩ ∈ tb := inT2 (List.mem_of_getElem? (i := 80) rfl) rfl
theorem k_321 : Cond.instanceMethod ⟨"OldBeams", "fall", "(I)I"⟩ ∈ tb := inT2 (List.mem_of_getElem? (i := 81) rfl) rfl
theorem k_322 : Cond.selects "OldBeams" ⟨"OldBeams", "fall", "(I)I"⟩ ⟨"OldBeams", "fall", "(I)I"⟩ ∈ tb := inT2 (List.mem_of_getElem? (i := 82) rfl) rfl
theorem k_323 : Cond.code ⟨"OldBeams", "fall", "(I)I"⟩ prog_1_method_9_code 2 (some .int) ∈ tb := inT2 (List.mem_of_getElem? (i := 83) rfl) rfl
theorem k_324 : Cond.methodLink "OldBeams" 133 ⟨"OldBeams", "isIn", "(II)Z"⟩ ∈ tb := inT2 (List.mem_of_getElem? (i := 84) rfl) rfl
theorem k_325 : Cond.methodLink "OldBeams" 136 ⟨"OldBeams$Frame", "downBy", "(I)I"⟩ ∈ tb := inT2 (List.mem_of_getElem? (i := 85) rfl) rfl
theorem k_326 : Cond.methodLink "OldBeams" 139 ⟨"java/lang/Integer", "bitCount", "(I)I"⟩ ∈ tb := inT2 (List.mem_of_getElem? (i := 86) rfl) rfl
theorem k_327 : Cond.static ⟨"java/lang/Integer", "bitCount", "(I)I"⟩ ∈ tb := inT2 (List.mem_of_getElem? (i := 87) rfl) rfl
theorem k_328 : Cond.code ⟨"java/lang/Integer", "bitCount", "(I)I"⟩ prog_8_method_49_code 1 (some .int) ∈ tb := inT2 (List.mem_of_getElem? (i := 88) rfl) rfl
theorem k_329 : Cond.constant "java/lang/Integer" 265 1431655765 ∈ tb := inT2 (List.mem_of_getElem? (i := 89) rfl) rfl
theorem k_330 : Cond.constant "java/lang/Integer" 266 858993459 ∈ tb := inT2 (List.mem_of_getElem? (i := 90) rfl) rfl
theorem k_331 : Cond.constant "java/lang/Integer" 267 252645135 ∈ tb := inT2 (List.mem_of_getElem? (i := 91) rfl) rfl
theorem k_332 : Cond.methodLink "OldBeamsLaw" 50 ⟨"OldBeams", "push", "(II)J"⟩ ∈ tb := inT2 (List.mem_of_getElem? (i := 92) rfl) rfl
theorem k_333 : Cond.instanceMethod ⟨"OldBeams", "push", "(II)J"⟩ ∈ tb := inT2 (List.mem_of_getElem? (i := 93) rfl) rfl
theorem k_334 : Cond.selects "OldBeams" ⟨"OldBeams", "push", "(II)J"⟩ ⟨"OldBeams", "push", "(II)J"⟩ ∈ tb := inT2 (List.mem_of_getElem? (i := 94) rfl) rfl
theorem k_335 : Cond.code ⟨"OldBeams", "push", "(II)J"⟩ prog_1_method_10_code 4 (some .long) ∈ tb := inT2 (List.mem_of_getElem? (i := 95) rfl) rfl
theorem k_336 : Cond.methodLink "OldBeams" 144 ⟨"OldBeams", "refusal", "(IZ)I"⟩ ∈ tb := inT2 (List.mem_of_getElem? (i := 96) rfl) rfl
theorem k_338 : Cond.instanceMethod ⟨"OldBeams", "refusal", "(IZ)I"⟩ ∈ tb := inT2 (List.mem_of_getElem? (i := 98) rfl) rfl
theorem k_339 : Cond.code ⟨"OldBeams", "refusal", "(IZ)I"⟩ prog_1_method_43_code 3 (some .int) ∈ tb := inT2 (List.mem_of_getElem? (i := 99) rfl) rfl
theorem k_340 : Cond.methodLink "OldBeams" 148 ⟨"OldBeams$Frame", "reckonNow", "()V"⟩ ∈ tb := inT2 (List.mem_of_getElem? (i := 100) rfl) rfl
theorem k_341 : Cond.instanceMethod ⟨"OldBeams$Frame", "reckonNow", "()V"⟩ ∈ tb := inT2 (List.mem_of_getElem? (i := 101) rfl) rfl
theorem k_342 : Cond.selects "OldBeams$Frame" ⟨"OldBeams$Frame", "reckonNow", "()V"⟩ ⟨"OldBeams$Frame", "reckonNow", "()V"⟩ ∈ tb := inT2 (List.mem_of_getElem? (i := 102) rfl) rfl
theorem k_343 : Cond.code ⟨"OldBeams$Frame", "reckonNow", "()V"⟩ prog_4_method_13_code 1 none ∈ tb := inT2 (List.mem_of_getElem? (i := 103) rfl) rfl
theorem k_344 : Cond.methodLink "OldBeams$Frame" 96 ⟨"OldBeams$Frame", "reckonAll", "(II)V"⟩ ∈ tb := inT2 (List.mem_of_getElem? (i := 104) rfl) rfl
theorem k_346 : Cond.instanceMethod ⟨"OldBeams$Frame", "reckonAll", "(II)V"⟩ ∈ tb := inT2 (List.mem_of_getElem? (i := 106) rfl) rfl
theorem k_347 : Cond.code ⟨"OldBeams$Frame", "reckonAll", "(II)V"⟩ prog_4_method_14_code 4 none ∈ tb := inT2 (List.mem_of_getElem? (i := 107) rfl) rfl
theorem k_348 : Cond.methodLink "OldBeams$Frame" 100 ⟨"OldBeams$Frame", "spreadForces", "(I)V"⟩ ∈ tb := inT2 (List.mem_of_getElem? (i := 108) rfl) rfl
theorem k_350 : Cond.instanceMethod ⟨"OldBeams$Frame", "spreadForces", "(I)V"⟩ ∈ tb := inT2 (List.mem_of_getElem? (i := 110) rfl) rfl
theorem k_351 : Cond.code ⟨"OldBeams$Frame", "spreadForces", "(I)V"⟩ prog_4_method_15_code 3 none ∈ tb := inT2 (List.mem_of_getElem? (i := 111) rfl) rfl
theorem k_352 : Cond.methodLink "OldBeams$Frame" 108 ⟨"OldBeams$Beam", "takeLoads", "()V"⟩ ∈ tb := inT2 (List.mem_of_getElem? (i := 112) rfl) rfl
theorem k_353 : Cond.instanceMethod ⟨"OldBeams$Beam", "takeLoads", "()V"⟩ ∈ tb := inT2 (List.mem_of_getElem? (i := 113) rfl) rfl
theorem k_354 : Cond.selects "OldBeams$Beam" ⟨"OldBeams$Beam", "takeLoads", "()V"⟩ ⟨"OldBeams$Beam", "takeLoads", "()V"⟩ ∈ tb := inT2 (List.mem_of_getElem? (i := 114) rfl) rfl
theorem k_355 : Cond.code ⟨"OldBeams$Beam", "takeLoads", "()V"⟩ prog_2_method_5_code 1 none ∈ tb := inT2 (List.mem_of_getElem? (i := 115) rfl) rfl
theorem k_356 : Cond.methodLink "OldBeams$Beam" 49 ⟨"java/lang/System", "arraycopy", "(Ljava/lang/Object;ILjava/lang/Object;II)V"⟩ ∈ tb := inT2 (List.mem_of_getElem? (i := 116) rfl) rfl
theorem k_357 : Cond.static ⟨"java/lang/System", "arraycopy", "(Ljava/lang/Object;ILjava/lang/Object;II)V"⟩ ∈ tb := inT2 (List.mem_of_getElem? (i := 117) rfl) rfl
theorem k_358 : Cond.native ⟨"java/lang/System", "arraycopy", "(Ljava/lang/Object;ILjava/lang/Object;II)V"⟩ ∈ tb := inT2 (List.mem_of_getElem? (i := 118) rfl) rfl
theorem k_359 : Cond.methodLink "OldBeams$Frame" 111 ⟨"OldBeams$Frame", "propBit", "(I)I"⟩ ∈ tb := inT2 (List.mem_of_getElem? (i := 119) rfl) rfl
theorem k_360 : Cond.static ⟨"OldBeams$Frame", "propBit", "(I)I"⟩ ∈ tb := inT2 (List.mem_of_getElem? (i := 120) rfl) rfl
theorem k_361 : Cond.code ⟨"OldBeams$Frame", "propBit", "(I)I"⟩ prog_4_method_9_code 1 (some .int) ∈ tb := inT2 (List.mem_of_getElem? (i := 121) rfl) rfl
theorem k_362 : Cond.methodLink "OldBeams$Frame" 104 ⟨"OldBeams$Frame", "reckonBeam", "(LOldBeams$Beam;)V"⟩ ∈ tb := inT2 (List.mem_of_getElem? (i := 122) rfl) rfl
theorem k_364 : Cond.instanceMethod ⟨"OldBeams$Frame", "reckonBeam", "(LOldBeams$Beam;)V"⟩ ∈ tb := inT2 (List.mem_of_getElem? (i := 124) rfl) rfl
theorem k_365 : Cond.code ⟨"OldBeams$Frame", "reckonBeam", "(LOldBeams$Beam;)V"⟩ prog_4_method_16_code 4 none ∈ tb := inT2 (List.mem_of_getElem? (i := 125) rfl) rfl
theorem k_366 : Cond.methodLink "OldBeams$Frame" 117 ⟨"OldBeams$Beam", "reckonPushes", "()V"⟩ ∈ tb := inT2 (List.mem_of_getElem? (i := 126) rfl) rfl
theorem k_367 : Cond.instanceMethod ⟨"OldBeams$Beam", "reckonPushes", "()V"⟩ ∈ tb := inT2 (List.mem_of_getElem? (i := 127) rfl) rfl
theorem k_368 : Cond.selects "OldBeams$Beam" ⟨"OldBeams$Beam", "reckonPushes", "()V"⟩ ⟨"OldBeams$Beam", "reckonPushes", "()V"⟩ ∈ tb := inT2 (List.mem_of_getElem? (i := 128) rfl) rfl
theorem k_369 : Cond.code ⟨"OldBeams$Beam", "reckonPushes", "()V"⟩ prog_2_method_6_code 7 none ∈ tb := inT2 (List.mem_of_getElem? (i := 129) rfl) rfl
theorem k_370 : Cond.methodLink "OldBeams$Beam" 55 ⟨"java/lang/Math", "floorDiv", "(JJ)J"⟩ ∈ tb := inT2 (List.mem_of_getElem? (i := 130) rfl) rfl
theorem k_371 : Cond.static ⟨"java/lang/Math", "floorDiv", "(JJ)J"⟩ ∈ tb := inT2 (List.mem_of_getElem? (i := 131) rfl) rfl
theorem k_372 : Cond.code ⟨"java/lang/Math", "floorDiv", "(JJ)J"⟩ prog_9_method_49_code 6 (some .long) ∈ tb := inT2 (List.mem_of_getElem? (i := 132) rfl) rfl
theorem k_373 : Cond.methodLink "OldBeams$Frame" 120 ⟨"OldBeams$Beam", "reckonGreatest", "()V"⟩ ∈ tb := inT2 (List.mem_of_getElem? (i := 133) rfl) rfl
theorem k_374 : Cond.instanceMethod ⟨"OldBeams$Beam", "reckonGreatest", "()V"⟩ ∈ tb := inT2 (List.mem_of_getElem? (i := 134) rfl) rfl
theorem k_375 : Cond.selects "OldBeams$Beam" ⟨"OldBeams$Beam", "reckonGreatest", "()V"⟩ ⟨"OldBeams$Beam", "reckonGreatest", "()V"⟩ ∈ tb := inT2 (List.mem_of_getElem? (i := 135) rfl) rfl
theorem k_376 : Cond.code ⟨"OldBeams$Beam", "reckonGreatest", "()V"⟩ prog_2_method_7_code 8 none ∈ tb := inT2 (List.mem_of_getElem? (i := 136) rfl) rfl
theorem k_377 : Cond.methodLink "OldBeams$Beam" 68 ⟨"java/lang/Math", "abs", "(J)J"⟩ ∈ tb := inT2 (List.mem_of_getElem? (i := 137) rfl) rfl
theorem k_378 : Cond.static ⟨"java/lang/Math", "abs", "(J)J"⟩ ∈ tb := inT2 (List.mem_of_getElem? (i := 138) rfl) rfl
theorem k_379 : Cond.code ⟨"java/lang/Math", "abs", "(J)J"⟩ prog_9_method_61_code 2 (some .long) ∈ tb := inT2 (List.mem_of_getElem? (i := 139) rfl) rfl
theorem k_380 : Cond.methodLink "OldBeamsLaw" 55 ⟨"OldBeams", "bending", "(II)J"⟩ ∈ tb := inT2 (List.mem_of_getElem? (i := 140) rfl) rfl
theorem k_381 : Cond.instanceMethod ⟨"OldBeams", "bending", "(II)J"⟩ ∈ tb := inT2 (List.mem_of_getElem? (i := 141) rfl) rfl
theorem k_382 : Cond.selects "OldBeams" ⟨"OldBeams", "bending", "(II)J"⟩ ⟨"OldBeams", "bending", "(II)J"⟩ ∈ tb := inT2 (List.mem_of_getElem? (i := 142) rfl) rfl
theorem k_383 : Cond.code ⟨"OldBeams", "bending", "(II)J"⟩ prog_1_method_11_code 4 (some .long) ∈ tb := inT2 (List.mem_of_getElem? (i := 143) rfl) rfl
theorem k_384 : Cond.methodLink "OldBeams" 155 ⟨"OldBeams$Beam", "bendingAt", "(I)J"⟩ ∈ tb := inT2 (List.mem_of_getElem? (i := 144) rfl) rfl
theorem k_385 : Cond.instanceMethod ⟨"OldBeams$Beam", "bendingAt", "(I)J"⟩ ∈ tb := inT2 (List.mem_of_getElem? (i := 145) rfl) rfl
theorem k_386 : Cond.selects "OldBeams$Beam" ⟨"OldBeams$Beam", "bendingAt", "(I)J"⟩ ⟨"OldBeams$Beam", "bendingAt", "(I)J"⟩ ∈ tb := inT2 (List.mem_of_getElem? (i := 146) rfl) rfl
theorem k_387 : Cond.code ⟨"OldBeams$Beam", "bendingAt", "(I)J"⟩ prog_2_method_8_code 5 (some .long) ∈ tb := inT2 (List.mem_of_getElem? (i := 147) rfl) rfl
theorem k_388 : Cond.methodLink "OldBeamsLaw" 59 ⟨"OldBeams", "greatest", "(IZ)J"⟩ ∈ tb := inT2 (List.mem_of_getElem? (i := 148) rfl) rfl
theorem k_389 : Cond.instanceMethod ⟨"OldBeams", "greatest", "(IZ)J"⟩ ∈ tb := inT2 (List.mem_of_getElem? (i := 149) rfl) rfl
theorem k_390 : Cond.selects "OldBeams" ⟨"OldBeams", "greatest", "(IZ)J"⟩ ⟨"OldBeams", "greatest", "(IZ)J"⟩ ∈ tb := inT2 (List.mem_of_getElem? (i := 150) rfl) rfl
theorem k_391 : Cond.code ⟨"OldBeams", "greatest", "(IZ)J"⟩ prog_1_method_12_code 5 (some .long) ∈ tb := inT2 (List.mem_of_getElem? (i := 151) rfl) rfl
theorem k_392 : Cond.methodLink "OldBeamsLaw" 64 ⟨"OldBeams", "lifts", "(I)I"⟩ ∈ tb := inT2 (List.mem_of_getElem? (i := 152) rfl) rfl
theorem k_393 : Cond.instanceMethod ⟨"OldBeams", "lifts", "(I)I"⟩ ∈ tb := inT2 (List.mem_of_getElem? (i := 153) rfl) rfl
theorem k_394 : Cond.selects "OldBeams" ⟨"OldBeams", "lifts", "(I)I"⟩ ⟨"OldBeams", "lifts", "(I)I"⟩ ∈ tb := inT2 (List.mem_of_getElem? (i := 154) rfl) rfl
theorem k_395 : Cond.code ⟨"OldBeams", "lifts", "(I)I"⟩ prog_1_method_13_code 3 (some .int) ∈ tb := inT2 (List.mem_of_getElem? (i := 155) rfl) rfl
theorem k_396 : Cond.methodLink "OldBeams" 166 ⟨"OldBeams$Beam", "isLifted", "()Z"⟩ ∈ tb := inT2 (List.mem_of_getElem? (i := 156) rfl) rfl
theorem k_397 : Cond.instanceMethod ⟨"OldBeams$Beam", "isLifted", "()Z"⟩ ∈ tb := inT2 (List.mem_of_getElem? (i := 157) rfl) rfl
theorem k_398 : Cond.selects "OldBeams$Beam" ⟨"OldBeams$Beam", "isLifted", "()Z"⟩ ⟨"OldBeams$Beam", "isLifted", "()Z"⟩ ∈ tb := inT2 (List.mem_of_getElem? (i := 158) rfl) rfl
theorem k_399 : Cond.code ⟨"OldBeams$Beam", "isLifted", "()Z"⟩ prog_2_method_9_code 1 (some .boolean) ∈ tb := inT2 (List.mem_of_getElem? (i := 159) rfl) rfl
theorem k_400 : Cond.methodLink "OldBeamsLaw" 68 ⟨"OldBeams", "holds", "(II)I"⟩ ∈ tb := inT2 (List.mem_of_getElem? (i := 160) rfl) rfl
theorem k_401 : Cond.instanceMethod ⟨"OldBeams", "holds", "(II)I"⟩ ∈ tb := inT2 (List.mem_of_getElem? (i := 161) rfl) rfl
theorem k_402 : Cond.selects "OldBeams" ⟨"OldBeams", "holds", "(II)I"⟩ ⟨"OldBeams", "holds", "(II)I"⟩ ∈ tb := inT2 (List.mem_of_getElem? (i := 162) rfl) rfl
theorem k_403 : Cond.code ⟨"OldBeams", "holds", "(II)I"⟩ prog_1_method_14_code 4 (some .int) ∈ tb := inT2 (List.mem_of_getElem? (i := 163) rfl) rfl
theorem k_404 : Cond.methodLink "OldBeams" 170 ⟨"OldBeams$Frame", "holdsWith", "(II)Z"⟩ ∈ tb := inT2 (List.mem_of_getElem? (i := 164) rfl) rfl
theorem k_405 : Cond.instanceMethod ⟨"OldBeams$Frame", "holdsWith", "(II)Z"⟩ ∈ tb := inT2 (List.mem_of_getElem? (i := 165) rfl) rfl
theorem k_406 : Cond.selects "OldBeams$Frame" ⟨"OldBeams$Frame", "holdsWith", "(II)Z"⟩ ⟨"OldBeams$Frame", "holdsWith", "(II)Z"⟩ ∈ tb := inT2 (List.mem_of_getElem? (i := 166) rfl) rfl
theorem k_407 : Cond.code ⟨"OldBeams$Frame", "holdsWith", "(II)Z"⟩ prog_4_method_18_code 4 (some .boolean) ∈ tb := inT2 (List.mem_of_getElem? (i := 167) rfl) rfl
theorem k_408 : Cond.methodLink "OldBeams$Frame" 138 ⟨"OldBeams$Beam", "isLifted", "()Z"⟩ ∈ tb := inT2 (List.mem_of_getElem? (i := 168) rfl) rfl
theorem k_409 : Cond.methodLink "OldBeams$Frame" 146 ⟨"OldBeams$Frame", "wholeStrength", "(I)I"⟩ ∈ tb := inT2 (List.mem_of_getElem? (i := 169) rfl) rfl
theorem k_410 : Cond.methodLink "OldBeamsLaw" 72 ⟨"OldBeams", "needs", "(I)I"⟩ ∈ tb := inT2 (List.mem_of_getElem? (i := 170) rfl) rfl
theorem k_411 : Cond.instanceMethod ⟨"OldBeams", "needs", "(I)I"⟩ ∈ tb := inT2 (List.mem_of_getElem? (i := 171) rfl) rfl
theorem k_412 : Cond.selects "OldBeams" ⟨"OldBeams", "needs", "(I)I"⟩ ⟨"OldBeams", "needs", "(I)I"⟩ ∈ tb := inT2 (List.mem_of_getElem? (i := 172) rfl) rfl
theorem k_413 : Cond.code ⟨"OldBeams", "needs", "(I)I"⟩ prog_1_method_15_code 4 (some .int) ∈ tb := inT2 (List.mem_of_getElem? (i := 173) rfl) rfl
theorem k_414 : Cond.methodLink "OldBeamsLaw" 76 ⟨"OldBeams", "weight", "(III)I"⟩ ∈ tb := inT2 (List.mem_of_getElem? (i := 174) rfl) rfl
theorem k_415 : Cond.instanceMethod ⟨"OldBeams", "weight", "(III)I"⟩ ∈ tb := inT2 (List.mem_of_getElem? (i := 175) rfl) rfl
theorem k_416 : Cond.selects "OldBeams" ⟨"OldBeams", "weight", "(III)I"⟩ ⟨"OldBeams", "weight", "(III)I"⟩ ∈ tb := inT2 (List.mem_of_getElem? (i := 176) rfl) rfl
theorem k_417 : Cond.code ⟨"OldBeams", "weight", "(III)I"⟩ prog_1_method_16_code 5 (some .int) ∈ tb := inT2 (List.mem_of_getElem? (i := 177) rfl) rfl
theorem k_418 : Cond.methodLink "OldBeams" 173 ⟨"OldBeams$Looks", "countAt", "(I)I"⟩ ∈ tb := inT2 (List.mem_of_getElem? (i := 178) rfl) rfl
theorem k_419 : Cond.instanceMethod ⟨"OldBeams$Looks", "countAt", "(I)I"⟩ ∈ tb := inT2 (List.mem_of_getElem? (i := 179) rfl) rfl
theorem k_420 : Cond.selects "OldBeams$Looks" ⟨"OldBeams$Looks", "countAt", "(I)I"⟩ ⟨"OldBeams$Looks", "countAt", "(I)I"⟩ ∈ tb := inT2 (List.mem_of_getElem? (i := 180) rfl) rfl
theorem k_421 : Cond.code ⟨"OldBeams$Looks", "countAt", "(I)I"⟩ prog_5_method_3_code 4 (some .int) ∈ tb := inT2 (List.mem_of_getElem? (i := 181) rfl) rfl
theorem k_422 : Cond.methodLink "OldBeams" 176 ⟨"OldBeams$Looks", "anyWeightLeft", "(III)Z"⟩ ∈ tb := inT2 (List.mem_of_getElem? (i := 182) rfl) rfl
theorem k_423 : Cond.instanceMethod ⟨"OldBeams$Looks", "anyWeightLeft", "(III)Z"⟩ ∈ tb := inT2 (List.mem_of_getElem? (i := 183) rfl) rfl
theorem k_424 : Cond.selects "OldBeams$Looks" ⟨"OldBeams$Looks", "anyWeightLeft", "(III)Z"⟩ ⟨"OldBeams$Looks", "anyWeightLeft", "(III)Z"⟩ ∈ tb := inT2 (List.mem_of_getElem? (i := 184) rfl) rfl
theorem k_425 : Cond.code ⟨"OldBeams$Looks", "anyWeightLeft", "(III)Z"⟩ prog_5_method_2_code 6 (some .boolean) ∈ tb := inT2 (List.mem_of_getElem? (i := 185) rfl) rfl
theorem k_426 : Cond.methodLink "OldBeamsLaw" 80 ⟨"OldBeams", "tool", "(III)I"⟩ ∈ tb := inT2 (List.mem_of_getElem? (i := 186) rfl) rfl
theorem k_427 : Cond.instanceMethod ⟨"OldBeams", "tool", "(III)I"⟩ ∈ tb := inT2 (List.mem_of_getElem? (i := 187) rfl) rfl
theorem k_428 : Cond.selects "OldBeams" ⟨"OldBeams", "tool", "(III)I"⟩ ⟨"OldBeams", "tool", "(III)I"⟩ ∈ tb := inT2 (List.mem_of_getElem? (i := 188) rfl) rfl
theorem k_429 : Cond.code ⟨"OldBeams", "tool", "(III)I"⟩ prog_1_method_17_code 5 (some .int) ∈ tb := inT2 (List.mem_of_getElem? (i := 189) rfl) rfl
theorem k_430 : Cond.methodLink "OldBeams" 182 ⟨"OldBeams", "isTool", "(I)Z"⟩ ∈ tb := inT2 (List.mem_of_getElem? (i := 190) rfl) rfl
theorem k_431 : Cond.static ⟨"OldBeams", "isTool", "(I)Z"⟩ ∈ tb := inT2 (List.mem_of_getElem? (i := 191) rfl) rfl
theorem k_432 : Cond.code ⟨"OldBeams", "isTool", "(I)Z"⟩ prog_1_method_40_code 1 (some .boolean) ∈ tb := inT2 (List.mem_of_getElem? (i := 192) rfl) rfl
theorem k_433 : Cond.methodLink "OldBeams" 185 ⟨"OldBeams$Looks", "isUsed", "(I)Z"⟩ ∈ tb := inT2 (List.mem_of_getElem? (i := 193) rfl) rfl
theorem k_434 : Cond.instanceMethod ⟨"OldBeams$Looks", "isUsed", "(I)Z"⟩ ∈ tb := inT2 (List.mem_of_getElem? (i := 194) rfl) rfl
theorem k_435 : Cond.selects "OldBeams$Looks" ⟨"OldBeams$Looks", "isUsed", "(I)Z"⟩ ⟨"OldBeams$Looks", "isUsed", "(I)Z"⟩ ∈ tb := inT2 (List.mem_of_getElem? (i := 195) rfl) rfl
theorem k_436 : Cond.code ⟨"OldBeams$Looks", "isUsed", "(I)Z"⟩ prog_5_method_4_code 3 (some .boolean) ∈ tb := inT2 (List.mem_of_getElem? (i := 196) rfl) rfl
theorem k_437 : Cond.methodLink "OldBeamsLaw" 84 ⟨"OldBeams", "look", "(IIII)I"⟩ ∈ tb := inT2 (List.mem_of_getElem? (i := 197) rfl) rfl
theorem k_438 : Cond.instanceMethod ⟨"OldBeams", "look", "(IIII)I"⟩ ∈ tb := inT2 (List.mem_of_getElem? (i := 198) rfl) rfl
theorem k_439 : Cond.selects "OldBeams" ⟨"OldBeams", "look", "(IIII)I"⟩ ⟨"OldBeams", "look", "(IIII)I"⟩ ∈ tb := inT2 (List.mem_of_getElem? (i := 199) rfl) rfl
theorem k_440 : Cond.code ⟨"OldBeams", "look", "(IIII)I"⟩ prog_1_method_18_code 5 (some .int) ∈ tb := inT2 (List.mem_of_getElem? (i := 200) rfl) rfl
theorem k_441 : Cond.methodLink "OldBeams" 191 ⟨"OldBeams$Looks", "lastYear", "()I"⟩ ∈ tb := inT2 (List.mem_of_getElem? (i := 201) rfl) rfl
theorem k_442 : Cond.instanceMethod ⟨"OldBeams$Looks", "lastYear", "()I"⟩ ∈ tb := inT2 (List.mem_of_getElem? (i := 202) rfl) rfl
theorem k_443 : Cond.selects "OldBeams$Looks" ⟨"OldBeams$Looks", "lastYear", "()I"⟩ ⟨"OldBeams$Looks", "lastYear", "()I"⟩ ∈ tb := inT2 (List.mem_of_getElem? (i := 203) rfl) rfl
theorem k_444 : Cond.code ⟨"OldBeams$Looks", "lastYear", "()I"⟩ prog_5_method_5_code 1 (some .int) ∈ tb := inT2 (List.mem_of_getElem? (i := 204) rfl) rfl
theorem k_445 : Cond.methodLink "OldBeams" 198 ⟨"OldBeams$Looks", "addLook", "(IIII)I"⟩ ∈ tb := inT2 (List.mem_of_getElem? (i := 205) rfl) rfl
theorem k_446 : Cond.instanceMethod ⟨"OldBeams$Looks", "addLook", "(IIII)I"⟩ ∈ tb := inT2 (List.mem_of_getElem? (i := 206) rfl) rfl
theorem k_447 : Cond.selects "OldBeams$Looks" ⟨"OldBeams$Looks", "addLook", "(IIII)I"⟩ ⟨"OldBeams$Looks", "addLook", "(IIII)I"⟩ ∈ tb := inT2 (List.mem_of_getElem? (i := 207) rfl) rfl
theorem k_448 : Cond.code ⟨"OldBeams$Looks", "addLook", "(IIII)I"⟩ prog_5_method_6_code 6 (some .int) ∈ tb := inT2 (List.mem_of_getElem? (i := 208) rfl) rfl
theorem k_449 : Cond.methodLink "OldBeamsLaw" 89 ⟨"OldBeams", "odds", "(III)J"⟩ ∈ tb := inT2 (List.mem_of_getElem? (i := 209) rfl) rfl
theorem k_450 : Cond.instanceMethod ⟨"OldBeams", "odds", "(III)J"⟩ ∈ tb := inT2 (List.mem_of_getElem? (i := 210) rfl) rfl
theorem k_451 : Cond.selects "OldBeams" ⟨"OldBeams", "odds", "(III)J"⟩ ⟨"OldBeams", "odds", "(III)J"⟩ ∈ tb := inT2 (List.mem_of_getElem? (i := 211) rfl) rfl
theorem k_452 : Cond.code ⟨"OldBeams", "odds", "(III)J"⟩ prog_1_method_19_code 4 (some .long) ∈ tb := inT2 (List.mem_of_getElem? (i := 212) rfl) rfl
theorem k_453 : Cond.constantLong "OldBeams" 201 (-900001) ∈ tb := inT2 (List.mem_of_getElem? (i := 213) rfl) rfl
theorem k_454 : Cond.constantLong "OldBeams" 203 (-900002) ∈ tb := inT2 (List.mem_of_getElem? (i := 214) rfl) rfl
theorem k_455 : Cond.methodLink "OldBeams" 205 ⟨"OldBeams$Looks", "reckonOdds", "(II)I"⟩ ∈ tb := inT2 (List.mem_of_getElem? (i := 215) rfl) rfl
theorem k_456 : Cond.instanceMethod ⟨"OldBeams$Looks", "reckonOdds", "(II)I"⟩ ∈ tb := inT2 (List.mem_of_getElem? (i := 216) rfl) rfl
theorem k_457 : Cond.selects "OldBeams$Looks" ⟨"OldBeams$Looks", "reckonOdds", "(II)I"⟩ ⟨"OldBeams$Looks", "reckonOdds", "(II)I"⟩ ∈ tb := inT2 (List.mem_of_getElem? (i := 217) rfl) rfl
theorem k_458 : Cond.code ⟨"OldBeams$Looks", "reckonOdds", "(II)I"⟩ prog_5_method_7_code 6 (some .int) ∈ tb := inT2 (List.mem_of_getElem? (i := 218) rfl) rfl
theorem k_459 : Cond.constant "OldBeams$Looks" 43 (-900009) ∈ tb := inT2 (List.mem_of_getElem? (i := 219) rfl) rfl
theorem k_460 : Cond.methodLink "OldBeams$Looks" 44 ⟨"OldBeams$Looks", "applyLook", "(II)Z"⟩ ∈ tb := inT2 (List.mem_of_getElem? (i := 220) rfl) rfl
theorem k_462 : Cond.instanceMethod ⟨"OldBeams$Looks", "applyLook", "(II)Z"⟩ ∈ tb := inT2 (List.mem_of_getElem? (i := 222) rfl) rfl
theorem k_463 : Cond.code ⟨"OldBeams$Looks", "applyLook", "(II)Z"⟩ prog_5_method_8_code 7 (some .boolean) ∈ tb := inT2 (List.mem_of_getElem? (i := 223) rfl) rfl
theorem k_464 : Cond.methodLink "OldBeams$Looks" 48 ⟨"OldBeams$Fraction", "common", "(JJ)J"⟩ ∈ tb := inT2 (List.mem_of_getElem? (i := 224) rfl) rfl
theorem k_465 : Cond.static ⟨"OldBeams$Fraction", "common", "(JJ)J"⟩ ∈ tb := inT2 (List.mem_of_getElem? (i := 225) rfl) rfl
theorem k_466 : Cond.code ⟨"OldBeams$Fraction", "common", "(JJ)J"⟩ prog_3_method_6_code 11 (some .long) ∈ tb := inT2 (List.mem_of_getElem? (i := 226) rfl) rfl
theorem k_467 : Cond.methodLink "OldBeamsLaw" 94 ⟨"OldBeams", "quarrel", "(II)I"⟩ ∈ tb := inT2 (List.mem_of_getElem? (i := 227) rfl) rfl
theorem k_468 : Cond.instanceMethod ⟨"OldBeams", "quarrel", "(II)I"⟩ ∈ tb := inT2 (List.mem_of_getElem? (i := 228) rfl) rfl
theorem k_469 : Cond.selects "OldBeams" ⟨"OldBeams", "quarrel", "(II)I"⟩ ⟨"OldBeams", "quarrel", "(II)I"⟩ ∈ tb := inT2 (List.mem_of_getElem? (i := 229) rfl) rfl
theorem k_470 : Cond.code ⟨"OldBeams", "quarrel", "(II)I"⟩ prog_1_method_20_code 3 (some .int) ∈ tb := inT2 (List.mem_of_getElem? (i := 230) rfl) rfl
theorem k_471 : Cond.methodLink "OldBeamsLaw" 98 ⟨"OldBeams", "share", "(IIIZ)I"⟩ ∈ tb := inT2 (List.mem_of_getElem? (i := 231) rfl) rfl
theorem k_472 : Cond.instanceMethod ⟨"OldBeams", "share", "(IIIZ)I"⟩ ∈ tb := inT2 (List.mem_of_getElem? (i := 232) rfl) rfl
theorem k_473 : Cond.selects "OldBeams" ⟨"OldBeams", "share", "(IIIZ)I"⟩ ⟨"OldBeams", "share", "(IIIZ)I"⟩ ∈ tb := inT2 (List.mem_of_getElem? (i := 233) rfl) rfl
theorem k_474 : Cond.code ⟨"OldBeams", "share", "(IIIZ)I"⟩ prog_1_method_21_code 5 (some .int) ∈ tb := inT2 (List.mem_of_getElem? (i := 234) rfl) rfl
theorem k_475 : Cond.methodLink "OldBeams" 212 ⟨"OldBeams", "areYears", "(II)Z"⟩ ∈ tb := inT2 (List.mem_of_getElem? (i := 235) rfl) rfl
theorem k_476 : Cond.static ⟨"OldBeams", "areYears", "(II)Z"⟩ ∈ tb := inT2 (List.mem_of_getElem? (i := 236) rfl) rfl
theorem k_477 : Cond.code ⟨"OldBeams", "areYears", "(II)Z"⟩ prog_1_method_39_code 2 (some .boolean) ∈ tb := inT2 (List.mem_of_getElem? (i := 237) rfl) rfl
theorem k_478 : Cond.methodLink "OldBeams" 215 ⟨"OldBeams$Looks", "knownShare", "(IIZ)I"⟩ ∈ tb := inT2 (List.mem_of_getElem? (i := 238) rfl) rfl
theorem k_479 : Cond.instanceMethod ⟨"OldBeams$Looks", "knownShare", "(IIZ)I"⟩ ∈ tb := inT2 (List.mem_of_getElem? (i := 239) rfl) rfl
theorem k_480 : Cond.selects "OldBeams$Looks" ⟨"OldBeams$Looks", "knownShare", "(IIZ)I"⟩ ⟨"OldBeams$Looks", "knownShare", "(IIZ)I"⟩ ∈ tb := inT3 (List.mem_of_getElem? (i := 0) rfl) rfl
theorem k_481 : Cond.code ⟨"OldBeams$Looks", "knownShare", "(IIZ)I"⟩ prog_5_method_10_code 6 (some .int) ∈ tb := inT3 (List.mem_of_getElem? (i := 1) rfl) rfl
theorem k_482 : Cond.methodLink "OldBeams$Looks" 54 ⟨"OldBeams$Looks", "reckonOdds", "(II)I"⟩ ∈ tb := inT3 (List.mem_of_getElem? (i := 2) rfl) rfl
theorem k_483 : Cond.methodLink "OldBeams" 219 ⟨"OldBeams$Frame", "shareLeft", "(III)I"⟩ ∈ tb := inT3 (List.mem_of_getElem? (i := 3) rfl) rfl
theorem k_484 : Cond.instanceMethod ⟨"OldBeams$Frame", "shareLeft", "(III)I"⟩ ∈ tb := inT3 (List.mem_of_getElem? (i := 4) rfl) rfl
theorem k_485 : Cond.selects "OldBeams$Frame" ⟨"OldBeams$Frame", "shareLeft", "(III)I"⟩ ⟨"OldBeams$Frame", "shareLeft", "(III)I"⟩ ∈ tb := inT3 (List.mem_of_getElem? (i := 5) rfl) rfl
theorem k_486 : Cond.code ⟨"OldBeams$Frame", "shareLeft", "(III)I"⟩ prog_4_method_19_code 6 (some .int) ∈ tb := inT3 (List.mem_of_getElem? (i := 6) rfl) rfl
theorem k_487 : Cond.methodLink "OldBeams$Frame" 153 ⟨"java/lang/Math", "max", "(II)I"⟩ ∈ tb := inT3 (List.mem_of_getElem? (i := 7) rfl) rfl
theorem k_488 : Cond.static ⟨"java/lang/Math", "max", "(II)I"⟩ ∈ tb := inT3 (List.mem_of_getElem? (i := 8) rfl) rfl
theorem k_489 : Cond.code ⟨"java/lang/Math", "max", "(II)I"⟩ prog_9_method_65_code 2 (some .int) ∈ tb := inT3 (List.mem_of_getElem? (i := 9) rfl) rfl
theorem k_490 : Cond.methodLink "OldBeamsLaw" 103 ⟨"OldBeams", "stands", "(IIZ)I"⟩ ∈ tb := inT3 (List.mem_of_getElem? (i := 10) rfl) rfl
theorem k_491 : Cond.instanceMethod ⟨"OldBeams", "stands", "(IIZ)I"⟩ ∈ tb := inT3 (List.mem_of_getElem? (i := 11) rfl) rfl
theorem k_492 : Cond.selects "OldBeams" ⟨"OldBeams", "stands", "(IIZ)I"⟩ ⟨"OldBeams", "stands", "(IIZ)I"⟩ ∈ tb := inT3 (List.mem_of_getElem? (i := 12) rfl) rfl
theorem k_493 : Cond.code ⟨"OldBeams", "stands", "(IIZ)I"⟩ prog_1_method_22_code 4 (some .int) ∈ tb := inT3 (List.mem_of_getElem? (i := 13) rfl) rfl
theorem k_494 : Cond.methodLink "OldBeams" 222 ⟨"OldBeams", "takeShares", "(IZ)V"⟩ ∈ tb := inT3 (List.mem_of_getElem? (i := 14) rfl) rfl
theorem k_496 : Cond.instanceMethod ⟨"OldBeams", "takeShares", "(IZ)V"⟩ ∈ tb := inT3 (List.mem_of_getElem? (i := 16) rfl) rfl
theorem k_497 : Cond.code ⟨"OldBeams", "takeShares", "(IZ)V"⟩ prog_1_method_44_code 4 none ∈ tb := inT3 (List.mem_of_getElem? (i := 17) rfl) rfl
theorem k_498 : Cond.methodLink "OldBeams" 226 ⟨"OldBeams", "standsAfter", "(I)Z"⟩ ∈ tb := inT3 (List.mem_of_getElem? (i := 18) rfl) rfl
theorem k_500 : Cond.instanceMethod ⟨"OldBeams", "standsAfter", "(I)Z"⟩ ∈ tb := inT3 (List.mem_of_getElem? (i := 20) rfl) rfl
theorem k_501 : Cond.code ⟨"OldBeams", "standsAfter", "(I)Z"⟩ prog_1_method_45_code 3 (some .boolean) ∈ tb := inT3 (List.mem_of_getElem? (i := 21) rfl) rfl
theorem k_502 : Cond.methodLink "OldBeamsLaw" 108 ⟨"OldBeams", "until", "(IZ)I"⟩ ∈ tb := inT3 (List.mem_of_getElem? (i := 22) rfl) rfl
theorem k_503 : Cond.instanceMethod ⟨"OldBeams", "until", "(IZ)I"⟩ ∈ tb := inT3 (List.mem_of_getElem? (i := 23) rfl) rfl
theorem k_504 : Cond.selects "OldBeams" ⟨"OldBeams", "until", "(IZ)I"⟩ ⟨"OldBeams", "until", "(IZ)I"⟩ ∈ tb := inT3 (List.mem_of_getElem? (i := 24) rfl) rfl
theorem k_505 : Cond.code ⟨"OldBeams", "until", "(IZ)I"⟩ prog_1_method_23_code 5 (some .int) ∈ tb := inT3 (List.mem_of_getElem? (i := 25) rfl) rfl
theorem k_506 : Cond.methodLink "OldBeamsLaw" 112 ⟨"OldBeams", "chance", "(IIZ)J"⟩ ∈ tb := inT3 (List.mem_of_getElem? (i := 26) rfl) rfl
theorem k_507 : Cond.instanceMethod ⟨"OldBeams", "chance", "(IIZ)J"⟩ ∈ tb := inT3 (List.mem_of_getElem? (i := 27) rfl) rfl
theorem k_508 : Cond.selects "OldBeams" ⟨"OldBeams", "chance", "(IIZ)J"⟩ ⟨"OldBeams", "chance", "(IIZ)J"⟩ ∈ tb := inT3 (List.mem_of_getElem? (i := 28) rfl) rfl
theorem k_509 : Cond.code ⟨"OldBeams", "chance", "(IIZ)J"⟩ prog_1_method_24_code 5 (some .long) ∈ tb := inT3 (List.mem_of_getElem? (i := 29) rfl) rfl
theorem k_510 : Cond.methodLink "OldBeams" 229 ⟨"OldBeams", "putChance", "(I)V"⟩ ∈ tb := inT3 (List.mem_of_getElem? (i := 30) rfl) rfl
theorem k_512 : Cond.instanceMethod ⟨"OldBeams", "putChance", "(I)V"⟩ ∈ tb := inT3 (List.mem_of_getElem? (i := 32) rfl) rfl
theorem k_513 : Cond.code ⟨"OldBeams", "putChance", "(I)V"⟩ prog_1_method_47_code 4 none ∈ tb := inT3 (List.mem_of_getElem? (i := 33) rfl) rfl
theorem k_514 : Cond.methodLink "OldBeams" 281 ⟨"OldBeams$Looks", "allOdds", "()J"⟩ ∈ tb := inT3 (List.mem_of_getElem? (i := 34) rfl) rfl
theorem k_515 : Cond.instanceMethod ⟨"OldBeams$Looks", "allOdds", "()J"⟩ ∈ tb := inT3 (List.mem_of_getElem? (i := 35) rfl) rfl
theorem k_516 : Cond.selects "OldBeams$Looks" ⟨"OldBeams$Looks", "allOdds", "()J"⟩ ⟨"OldBeams$Looks", "allOdds", "()J"⟩ ∈ tb := inT3 (List.mem_of_getElem? (i := 36) rfl) rfl
theorem k_517 : Cond.code ⟨"OldBeams$Looks", "allOdds", "()J"⟩ prog_5_method_9_code 4 (some .long) ∈ tb := inT3 (List.mem_of_getElem? (i := 37) rfl) rfl
theorem k_518 : Cond.methodLink "OldBeams" 285 ⟨"OldBeams", "lostOdds", "(I)J"⟩ ∈ tb := inT3 (List.mem_of_getElem? (i := 38) rfl) rfl
theorem k_520 : Cond.instanceMethod ⟨"OldBeams", "lostOdds", "(I)J"⟩ ∈ tb := inT3 (List.mem_of_getElem? (i := 40) rfl) rfl
theorem k_521 : Cond.code ⟨"OldBeams", "lostOdds", "(I)J"⟩ prog_1_method_46_code 5 (some .long) ∈ tb := inT3 (List.mem_of_getElem? (i := 41) rfl) rfl
theorem k_522 : Cond.methodLink "OldBeams" 274 ⟨"OldBeams$Fraction", "put", "(JJ)V"⟩ ∈ tb := inT3 (List.mem_of_getElem? (i := 42) rfl) rfl
theorem k_523 : Cond.instanceMethod ⟨"OldBeams$Fraction", "put", "(JJ)V"⟩ ∈ tb := inT3 (List.mem_of_getElem? (i := 43) rfl) rfl
theorem k_524 : Cond.selects "OldBeams$Fraction" ⟨"OldBeams$Fraction", "put", "(JJ)V"⟩ ⟨"OldBeams$Fraction", "put", "(JJ)V"⟩ ∈ tb := inT3 (List.mem_of_getElem? (i := 44) rfl) rfl
theorem k_525 : Cond.code ⟨"OldBeams$Fraction", "put", "(JJ)V"⟩ prog_3_method_2_code 7 none ∈ tb := inT3 (List.mem_of_getElem? (i := 45) rfl) rfl
theorem k_526 : Cond.methodLink "OldBeams$Fraction" 16 ⟨"OldBeams$Fraction", "common", "(JJ)J"⟩ ∈ tb := inT3 (List.mem_of_getElem? (i := 46) rfl) rfl
theorem k_527 : Cond.methodLink "OldBeams" 232 ⟨"OldBeams$Fraction", "part", "(Z)J"⟩ ∈ tb := inT3 (List.mem_of_getElem? (i := 47) rfl) rfl
theorem k_528 : Cond.instanceMethod ⟨"OldBeams$Fraction", "part", "(Z)J"⟩ ∈ tb := inT3 (List.mem_of_getElem? (i := 48) rfl) rfl
theorem k_529 : Cond.selects "OldBeams$Fraction" ⟨"OldBeams$Fraction", "part", "(Z)J"⟩ ⟨"OldBeams$Fraction", "part", "(Z)J"⟩ ∈ tb := inT3 (List.mem_of_getElem? (i := 49) rfl) rfl
theorem k_530 : Cond.code ⟨"OldBeams$Fraction", "part", "(Z)J"⟩ prog_3_method_4_code 2 (some .long) ∈ tb := inT3 (List.mem_of_getElem? (i := 50) rfl) rfl
theorem k_531 : Cond.methodLink "OldBeamsLaw" 117 ⟨"OldBeams", "weakest", "(I)I"⟩ ∈ tb := inT3 (List.mem_of_getElem? (i := 51) rfl) rfl
theorem k_532 : Cond.instanceMethod ⟨"OldBeams", "weakest", "(I)I"⟩ ∈ tb := inT3 (List.mem_of_getElem? (i := 52) rfl) rfl
theorem k_533 : Cond.selects "OldBeams" ⟨"OldBeams", "weakest", "(I)I"⟩ ⟨"OldBeams", "weakest", "(I)I"⟩ ∈ tb := inT3 (List.mem_of_getElem? (i := 53) rfl) rfl
theorem k_534 : Cond.code ⟨"OldBeams", "weakest", "(I)I"⟩ prog_1_method_25_code 4 (some .int) ∈ tb := inT3 (List.mem_of_getElem? (i := 54) rfl) rfl
theorem k_535 : Cond.methodLink "OldBeams" 236 ⟨"OldBeams$Fraction", "isLessThan", "(LOldBeams$Fraction;)Z"⟩ ∈ tb := inT3 (List.mem_of_getElem? (i := 55) rfl) rfl
theorem k_536 : Cond.instanceMethod ⟨"OldBeams$Fraction", "isLessThan", "(LOldBeams$Fraction;)Z"⟩ ∈ tb := inT3 (List.mem_of_getElem? (i := 56) rfl) rfl
theorem k_537 : Cond.selects "OldBeams$Fraction" ⟨"OldBeams$Fraction", "isLessThan", "(LOldBeams$Fraction;)Z"⟩ ⟨"OldBeams$Fraction", "isLessThan", "(LOldBeams$Fraction;)Z"⟩ ∈ tb := inT3 (List.mem_of_getElem? (i := 57) rfl) rfl
theorem k_538 : Cond.code ⟨"OldBeams$Fraction", "isLessThan", "(LOldBeams$Fraction;)Z"⟩ prog_3_method_5_code 16 (some .boolean) ∈ tb := inT3 (List.mem_of_getElem? (i := 58) rfl) rfl
theorem k_539 : Cond.methodLink "OldBeams" 240 ⟨"OldBeams$Fraction", "copy", "(LOldBeams$Fraction;)V"⟩ ∈ tb := inT3 (List.mem_of_getElem? (i := 59) rfl) rfl
theorem k_540 : Cond.instanceMethod ⟨"OldBeams$Fraction", "copy", "(LOldBeams$Fraction;)V"⟩ ∈ tb := inT3 (List.mem_of_getElem? (i := 60) rfl) rfl
theorem k_541 : Cond.selects "OldBeams$Fraction" ⟨"OldBeams$Fraction", "copy", "(LOldBeams$Fraction;)V"⟩ ⟨"OldBeams$Fraction", "copy", "(LOldBeams$Fraction;)V"⟩ ∈ tb := inT3 (List.mem_of_getElem? (i := 61) rfl) rfl
theorem k_542 : Cond.code ⟨"OldBeams$Fraction", "copy", "(LOldBeams$Fraction;)V"⟩ prog_3_method_3_code 2 none ∈ tb := inT3 (List.mem_of_getElem? (i := 62) rfl) rfl
theorem k_543 : Cond.methodLink "OldBeamsLaw" 121 ⟨"OldBeams", "chain", "(II)I"⟩ ∈ tb := inT3 (List.mem_of_getElem? (i := 63) rfl) rfl
theorem k_544 : Cond.instanceMethod ⟨"OldBeams", "chain", "(II)I"⟩ ∈ tb := inT3 (List.mem_of_getElem? (i := 64) rfl) rfl
theorem k_545 : Cond.selects "OldBeams" ⟨"OldBeams", "chain", "(II)I"⟩ ⟨"OldBeams", "chain", "(II)I"⟩ ∈ tb := inT3 (List.mem_of_getElem? (i := 65) rfl) rfl
theorem k_546 : Cond.code ⟨"OldBeams", "chain", "(II)I"⟩ prog_1_method_26_code 4 (some .int) ∈ tb := inT3 (List.mem_of_getElem? (i := 66) rfl) rfl
theorem k_547 : Cond.methodLink "OldBeams" 244 ⟨"OldBeams$Frame", "tryFall", "(I[I[I)I"⟩ ∈ tb := inT3 (List.mem_of_getElem? (i := 67) rfl) rfl
theorem k_548 : Cond.instanceMethod ⟨"OldBeams$Frame", "tryFall", "(I[I[I)I"⟩ ∈ tb := inT3 (List.mem_of_getElem? (i := 68) rfl) rfl
theorem k_549 : Cond.selects "OldBeams$Frame" ⟨"OldBeams$Frame", "tryFall", "(I[I[I)I"⟩ ⟨"OldBeams$Frame", "tryFall", "(I[I[I)I"⟩ ∈ tb := inT3 (List.mem_of_getElem? (i := 69) rfl) rfl
theorem k_550 : Cond.code ⟨"OldBeams$Frame", "tryFall", "(I[I[I)I"⟩ prog_4_method_20_code 7 (some .int) ∈ tb := inT3 (List.mem_of_getElem? (i := 70) rfl) rfl
theorem k_551 : Cond.methodLink "OldBeams$Frame" 162 ⟨"OldBeams$Frame", "firstNotHolding", "(I[I)I"⟩ ∈ tb := inT3 (List.mem_of_getElem? (i := 71) rfl) rfl
theorem k_553 : Cond.instanceMethod ⟨"OldBeams$Frame", "firstNotHolding", "(I[I)I"⟩ ∈ tb := inT3 (List.mem_of_getElem? (i := 73) rfl) rfl
theorem k_554 : Cond.code ⟨"OldBeams$Frame", "firstNotHolding", "(I[I)I"⟩ prog_4_method_21_code 4 (some .int) ∈ tb := inT3 (List.mem_of_getElem? (i := 74) rfl) rfl
theorem k_555 : Cond.methodLink "OldBeams$Frame" 166 ⟨"OldBeams$Frame", "holdsWith", "(II)Z"⟩ ∈ tb := inT3 (List.mem_of_getElem? (i := 75) rfl) rfl
theorem k_556 : Cond.methodLink "OldBeamsLaw" 125 ⟨"OldBeams", "chainAt", "(III)I"⟩ ∈ tb := inT3 (List.mem_of_getElem? (i := 76) rfl) rfl
theorem k_557 : Cond.instanceMethod ⟨"OldBeams", "chainAt", "(III)I"⟩ ∈ tb := inT3 (List.mem_of_getElem? (i := 77) rfl) rfl
theorem k_558 : Cond.selects "OldBeams" ⟨"OldBeams", "chainAt", "(III)I"⟩ ⟨"OldBeams", "chainAt", "(III)I"⟩ ∈ tb := inT3 (List.mem_of_getElem? (i := 78) rfl) rfl
theorem k_559 : Cond.code ⟨"OldBeams", "chainAt", "(III)I"⟩ prog_1_method_27_code 6 (some .int) ∈ tb := inT3 (List.mem_of_getElem? (i := 79) rfl) rfl
theorem k_560 : Cond.methodLink "OldBeamsLaw" 129 ⟨"OldBeams", "prop", "(III)I"⟩ ∈ tb := inT3 (List.mem_of_getElem? (i := 80) rfl) rfl
theorem k_561 : Cond.instanceMethod ⟨"OldBeams", "prop", "(III)I"⟩ ∈ tb := inT3 (List.mem_of_getElem? (i := 81) rfl) rfl
theorem k_562 : Cond.selects "OldBeams" ⟨"OldBeams", "prop", "(III)I"⟩ ⟨"OldBeams", "prop", "(III)I"⟩ ∈ tb := inT3 (List.mem_of_getElem? (i := 82) rfl) rfl
theorem k_563 : Cond.code ⟨"OldBeams", "prop", "(III)I"⟩ prog_1_method_28_code 4 (some .int) ∈ tb := inT3 (List.mem_of_getElem? (i := 83) rfl) rfl
theorem k_564 : Cond.methodLink "OldBeams" 254 ⟨"OldBeams$Frame", "addProp", "(III)I"⟩ ∈ tb := inT3 (List.mem_of_getElem? (i := 84) rfl) rfl
theorem k_565 : Cond.instanceMethod ⟨"OldBeams$Frame", "addProp", "(III)I"⟩ ∈ tb := inT3 (List.mem_of_getElem? (i := 85) rfl) rfl
theorem k_566 : Cond.selects "OldBeams$Frame" ⟨"OldBeams$Frame", "addProp", "(III)I"⟩ ⟨"OldBeams$Frame", "addProp", "(III)I"⟩ ∈ tb := inT3 (List.mem_of_getElem? (i := 86) rfl) rfl
theorem k_567 : Cond.code ⟨"OldBeams$Frame", "addProp", "(III)I"⟩ prog_4_method_8_code 5 (some .int) ∈ tb := inT3 (List.mem_of_getElem? (i := 87) rfl) rfl
theorem k_568 : Cond.methodLink "OldBeamsLaw" 133 ⟨"OldBeams", "set", "(IZ)I"⟩ ∈ tb := inT3 (List.mem_of_getElem? (i := 88) rfl) rfl
theorem k_569 : Cond.instanceMethod ⟨"OldBeams", "set", "(IZ)I"⟩ ∈ tb := inT3 (List.mem_of_getElem? (i := 89) rfl) rfl
theorem k_570 : Cond.selects "OldBeams" ⟨"OldBeams", "set", "(IZ)I"⟩ ⟨"OldBeams", "set", "(IZ)I"⟩ ∈ tb := inT3 (List.mem_of_getElem? (i := 90) rfl) rfl
theorem k_571 : Cond.code ⟨"OldBeams", "set", "(IZ)I"⟩ prog_1_method_29_code 5 (some .int) ∈ tb := inT3 (List.mem_of_getElem? (i := 91) rfl) rfl
theorem k_572 : Cond.methodLink "OldBeams" 257 ⟨"OldBeams$Frame", "propBit", "(I)I"⟩ ∈ tb := inT3 (List.mem_of_getElem? (i := 92) rfl) rfl
theorem k_573 : Cond.methodLink "OldBeamsLaw" 137 ⟨"OldBeams", "fewest", "(I)I"⟩ ∈ tb := inT3 (List.mem_of_getElem? (i := 93) rfl) rfl
theorem k_574 : Cond.instanceMethod ⟨"OldBeams", "fewest", "(I)I"⟩ ∈ tb := inT3 (List.mem_of_getElem? (i := 94) rfl) rfl
theorem k_575 : Cond.selects "OldBeams" ⟨"OldBeams", "fewest", "(I)I"⟩ ⟨"OldBeams", "fewest", "(I)I"⟩ ∈ tb := inT3 (List.mem_of_getElem? (i := 95) rfl) rfl
theorem k_576 : Cond.code ⟨"OldBeams", "fewest", "(I)I"⟩ prog_1_method_30_code 3 (some .int) ∈ tb := inT3 (List.mem_of_getElem? (i := 96) rfl) rfl
theorem k_577 : Cond.methodLink "OldBeams" 263 ⟨"OldBeams$Frame", "fewestProps", "([I)I"⟩ ∈ tb := inT3 (List.mem_of_getElem? (i := 97) rfl) rfl
theorem k_578 : Cond.instanceMethod ⟨"OldBeams$Frame", "fewestProps", "([I)I"⟩ ∈ tb := inT3 (List.mem_of_getElem? (i := 98) rfl) rfl
theorem k_579 : Cond.selects "OldBeams$Frame" ⟨"OldBeams$Frame", "fewestProps", "([I)I"⟩ ⟨"OldBeams$Frame", "fewestProps", "([I)I"⟩ ∈ tb := inT3 (List.mem_of_getElem? (i := 99) rfl) rfl
theorem k_580 : Cond.code ⟨"OldBeams$Frame", "fewestProps", "([I)I"⟩ prog_4_method_22_code 6 (some .int) ∈ tb := inT3 (List.mem_of_getElem? (i := 100) rfl) rfl
theorem k_581 : Cond.methodLink "OldBeams$Frame" 169 ⟨"java/lang/Integer", "bitCount", "(I)I"⟩ ∈ tb := inT3 (List.mem_of_getElem? (i := 101) rfl) rfl
theorem k_582 : Cond.methodLink "OldBeams$Frame" 174 ⟨"OldBeams$Frame", "standsWith", "(I[I)Z"⟩ ∈ tb := inT3 (List.mem_of_getElem? (i := 102) rfl) rfl
theorem k_584 : Cond.instanceMethod ⟨"OldBeams$Frame", "standsWith", "(I[I)Z"⟩ ∈ tb := inT3 (List.mem_of_getElem? (i := 104) rfl) rfl
theorem k_585 : Cond.code ⟨"OldBeams$Frame", "standsWith", "(I[I)Z"⟩ prog_4_method_23_code 4 (some .boolean) ∈ tb := inT3 (List.mem_of_getElem? (i := 105) rfl) rfl
theorem k_586 : Cond.methodLink "OldBeamsLaw" 141 ⟨"OldBeams", "needed", "(II)I"⟩ ∈ tb := inT3 (List.mem_of_getElem? (i := 106) rfl) rfl
theorem k_587 : Cond.instanceMethod ⟨"OldBeams", "needed", "(II)I"⟩ ∈ tb := inT3 (List.mem_of_getElem? (i := 107) rfl) rfl
theorem k_588 : Cond.selects "OldBeams" ⟨"OldBeams", "needed", "(II)I"⟩ ⟨"OldBeams", "needed", "(II)I"⟩ ∈ tb := inT3 (List.mem_of_getElem? (i := 108) rfl) rfl
theorem k_589 : Cond.code ⟨"OldBeams", "needed", "(II)I"⟩ prog_1_method_31_code 6 (some .int) ∈ tb := inT3 (List.mem_of_getElem? (i := 109) rfl) rfl
theorem k_590 : Cond.methodLink "OldBeamsLaw" 145 ⟨"OldBeams", "price", "(II)I"⟩ ∈ tb := inT3 (List.mem_of_getElem? (i := 110) rfl) rfl
theorem k_591 : Cond.instanceMethod ⟨"OldBeams", "price", "(II)I"⟩ ∈ tb := inT3 (List.mem_of_getElem? (i := 111) rfl) rfl
theorem k_592 : Cond.selects "OldBeams" ⟨"OldBeams", "price", "(II)I"⟩ ⟨"OldBeams", "price", "(II)I"⟩ ∈ tb := inT3 (List.mem_of_getElem? (i := 112) rfl) rfl
theorem k_593 : Cond.code ⟨"OldBeams", "price", "(II)I"⟩ prog_1_method_32_code 4 (some .int) ∈ tb := inT3 (List.mem_of_getElem? (i := 113) rfl) rfl
theorem k_594 : Cond.methodLink "OldBeamsLaw" 149 ⟨"OldBeams", "mean", "(IIZ)J"⟩ ∈ tb := inT3 (List.mem_of_getElem? (i := 114) rfl) rfl
theorem k_595 : Cond.instanceMethod ⟨"OldBeams", "mean", "(IIZ)J"⟩ ∈ tb := inT3 (List.mem_of_getElem? (i := 115) rfl) rfl
theorem k_596 : Cond.selects "OldBeams" ⟨"OldBeams", "mean", "(IIZ)J"⟩ ⟨"OldBeams", "mean", "(IIZ)J"⟩ ∈ tb := inT3 (List.mem_of_getElem? (i := 116) rfl) rfl
theorem k_597 : Cond.code ⟨"OldBeams", "mean", "(IIZ)J"⟩ prog_1_method_33_code 5 (some .long) ∈ tb := inT3 (List.mem_of_getElem? (i := 117) rfl) rfl
theorem k_598 : Cond.methodLink "OldBeams" 267 ⟨"OldBeams", "putMean", "(I)V"⟩ ∈ tb := inT3 (List.mem_of_getElem? (i := 118) rfl) rfl
theorem k_600 : Cond.instanceMethod ⟨"OldBeams", "putMean", "(I)V"⟩ ∈ tb := inT3 (List.mem_of_getElem? (i := 120) rfl) rfl
theorem k_601 : Cond.code ⟨"OldBeams", "putMean", "(I)V"⟩ prog_1_method_48_code 4 none ∈ tb := inT3 (List.mem_of_getElem? (i := 121) rfl) rfl
theorem k_602 : Cond.methodLink "OldBeams" 288 ⟨"OldBeams", "cost", "(JJ)J"⟩ ∈ tb := inT3 (List.mem_of_getElem? (i := 122) rfl) rfl
theorem k_604 : Cond.instanceMethod ⟨"OldBeams", "cost", "(JJ)J"⟩ ∈ tb := inT3 (List.mem_of_getElem? (i := 124) rfl) rfl
theorem k_605 : Cond.code ⟨"OldBeams", "cost", "(JJ)J"⟩ prog_1_method_50_code 5 (some .long) ∈ tb := inT3 (List.mem_of_getElem? (i := 125) rfl) rfl
theorem k_606 : Cond.methodLink "OldBeams" 294 ⟨"java/lang/Math", "min", "(JJ)J"⟩ ∈ tb := inT3 (List.mem_of_getElem? (i := 126) rfl) rfl
theorem k_607 : Cond.static ⟨"java/lang/Math", "min", "(JJ)J"⟩ ∈ tb := inT3 (List.mem_of_getElem? (i := 127) rfl) rfl
theorem k_608 : Cond.code ⟨"java/lang/Math", "min", "(JJ)J"⟩ prog_9_method_70_code 4 (some .long) ∈ tb := inT3 (List.mem_of_getElem? (i := 128) rfl) rfl
theorem k_609 : Cond.methodLink "OldBeamsLaw" 153 ⟨"OldBeams", "worth", "(IIIZ)J"⟩ ∈ tb := inT3 (List.mem_of_getElem? (i := 129) rfl) rfl
theorem k_610 : Cond.instanceMethod ⟨"OldBeams", "worth", "(IIIZ)J"⟩ ∈ tb := inT3 (List.mem_of_getElem? (i := 130) rfl) rfl
theorem k_611 : Cond.selects "OldBeams" ⟨"OldBeams", "worth", "(IIIZ)J"⟩ ⟨"OldBeams", "worth", "(IIIZ)J"⟩ ∈ tb := inT3 (List.mem_of_getElem? (i := 131) rfl) rfl
theorem k_612 : Cond.code ⟨"OldBeams", "worth", "(IIIZ)J"⟩ prog_1_method_34_code 6 (some .long) ∈ tb := inT3 (List.mem_of_getElem? (i := 132) rfl) rfl
theorem k_613 : Cond.methodLink "OldBeams" 270 ⟨"OldBeams", "putWorth", "(II)V"⟩ ∈ tb := inT3 (List.mem_of_getElem? (i := 133) rfl) rfl
theorem k_615 : Cond.instanceMethod ⟨"OldBeams", "putWorth", "(II)V"⟩ ∈ tb := inT3 (List.mem_of_getElem? (i := 135) rfl) rfl
theorem k_616 : Cond.code ⟨"OldBeams", "putWorth", "(II)V"⟩ prog_1_method_49_code 15 none ∈ tb := inT3 (List.mem_of_getElem? (i := 136) rfl) rfl
theorem k_617 : Cond.constantLong "OldBeams" 292 9 ∈ tb := inT3 (List.mem_of_getElem? (i := 137) rfl) rfl
theorem k_618 : Cond.methodLink "OldBeamsLaw" 158 ⟨"OldBeams", "bestLook", "(I)I"⟩ ∈ tb := inT3 (List.mem_of_getElem? (i := 138) rfl) rfl
theorem k_619 : Cond.instanceMethod ⟨"OldBeams", "bestLook", "(I)I"⟩ ∈ tb := inT3 (List.mem_of_getElem? (i := 139) rfl) rfl
theorem k_620 : Cond.selects "OldBeams" ⟨"OldBeams", "bestLook", "(I)I"⟩ ⟨"OldBeams", "bestLook", "(I)I"⟩ ∈ tb := inT3 (List.mem_of_getElem? (i := 140) rfl) rfl
theorem k_621 : Cond.code ⟨"OldBeams", "bestLook", "(I)I"⟩ prog_1_method_35_code 5 (some .int) ∈ tb := inT3 (List.mem_of_getElem? (i := 141) rfl) rfl
theorem k_622 : Cond.methodLink "OldBeamsLaw" 162 ⟨"OldBeams", "count", "(I)I"⟩ ∈ tb := inT3 (List.mem_of_getElem? (i := 142) rfl) rfl
theorem k_623 : Cond.instanceMethod ⟨"OldBeams", "count", "(I)I"⟩ ∈ tb := inT3 (List.mem_of_getElem? (i := 143) rfl) rfl
theorem k_624 : Cond.selects "OldBeams" ⟨"OldBeams", "count", "(I)I"⟩ ⟨"OldBeams", "count", "(I)I"⟩ ∈ tb := inT3 (List.mem_of_getElem? (i := 144) rfl) rfl
theorem k_625 : Cond.code ⟨"OldBeams", "count", "(I)I"⟩ prog_1_method_36_code 2 (some .int) ∈ tb := inT3 (List.mem_of_getElem? (i := 145) rfl) rfl
theorem k_626 : Cond.methodLink "OldBeams" 278 ⟨"OldBeams$Frame", "loadsOn", "()I"⟩ ∈ tb := inT3 (List.mem_of_getElem? (i := 146) rfl) rfl
theorem k_627 : Cond.instanceMethod ⟨"OldBeams$Frame", "loadsOn", "()I"⟩ ∈ tb := inT3 (List.mem_of_getElem? (i := 147) rfl) rfl
theorem k_628 : Cond.selects "OldBeams$Frame" ⟨"OldBeams$Frame", "loadsOn", "()I"⟩ ⟨"OldBeams$Frame", "loadsOn", "()I"⟩ ∈ tb := inT3 (List.mem_of_getElem? (i := 148) rfl) rfl
theorem k_629 : Cond.code ⟨"OldBeams$Frame", "loadsOn", "()I"⟩ prog_4_method_7_code 3 (some .int) ∈ tb := inT3 (List.mem_of_getElem? (i := 149) rfl) rfl
theorem k_630 : Cond.classLink "OldBeamsLaw" 10 "OldBeamsModel" ∈ tb := inT3 (List.mem_of_getElem? (i := 150) rfl) rfl
theorem k_631 : Cond.instantiable "OldBeamsModel" 45 ∈ tb := inT3 (List.mem_of_getElem? (i := 151) rfl) rfl
theorem k_632 : Cond.methodLink "OldBeamsLaw" 12 ⟨"OldBeamsModel", "<init>", "()V"⟩ ∈ tb := inT3 (List.mem_of_getElem? (i := 152) rfl) rfl
theorem k_633 : Cond.instanceMethod ⟨"OldBeamsModel", "<init>", "()V"⟩ ∈ tb := inT3 (List.mem_of_getElem? (i := 153) rfl) rfl
theorem k_634 : Cond.code ⟨"OldBeamsModel", "<init>", "()V"⟩ prog_7_method_1_code 2 none ∈ tb := inT3 (List.mem_of_getElem? (i := 154) rfl) rfl
theorem k_635 : Cond.methodLink "OldBeamsModel" 1 ⟨"java/lang/Object", "<init>", "()V"⟩ ∈ tb := inT3 (List.mem_of_getElem? (i := 155) rfl) rfl
theorem k_636 : Cond.fieldLink "OldBeamsModel" 7 "OldBeamsModel" "grade" "[I" ∈ tb := inT3 (List.mem_of_getElem? (i := 156) rfl) rfl
theorem k_637 : Cond.fieldLink "OldBeamsModel" 13 "OldBeamsModel" "rot" "[I" ∈ tb := inT3 (List.mem_of_getElem? (i := 157) rfl) rfl
theorem k_638 : Cond.fieldLink "OldBeamsModel" 144 "OldBeamsModel" "beams" "I" ∈ tb := inT3 (List.mem_of_getElem? (i := 158) rfl) rfl
theorem k_639 : Cond.fieldLink "OldBeamsModel" 16 "OldBeamsModel" "kind" "[I" ∈ tb := inT3 (List.mem_of_getElem? (i := 159) rfl) rfl
theorem k_640 : Cond.fieldLink "OldBeamsModel" 19 "OldBeamsModel" "length" "[I" ∈ tb := inT3 (List.mem_of_getElem? (i := 160) rfl) rfl
theorem k_641 : Cond.fieldLink "OldBeamsModel" 22 "OldBeamsModel" "width" "[I" ∈ tb := inT3 (List.mem_of_getElem? (i := 161) rfl) rfl
theorem k_642 : Cond.fieldLink "OldBeamsModel" 25 "OldBeamsModel" "height" "[I" ∈ tb := inT3 (List.mem_of_getElem? (i := 162) rfl) rfl
theorem k_643 : Cond.fieldLink "OldBeamsModel" 28 "OldBeamsModel" "isWet" "[Z" ∈ tb := inT3 (List.mem_of_getElem? (i := 163) rfl) rfl
theorem k_644 : Cond.fieldLink "OldBeamsModel" 32 "OldBeamsModel" "hasFallen" "[Z" ∈ tb := inT3 (List.mem_of_getElem? (i := 164) rfl) rfl
theorem k_645 : Cond.fieldLink "OldBeamsModel" 35 "OldBeamsModel" "seatAt" "[I" ∈ tb := inT3 (List.mem_of_getElem? (i := 165) rfl) rfl
theorem k_646 : Cond.fieldLink "OldBeamsModel" 38 "OldBeamsModel" "seatOn" "[I" ∈ tb := inT3 (List.mem_of_getElem? (i := 166) rfl) rfl
theorem k_647 : Cond.fieldLink "OldBeamsModel" 41 "OldBeamsModel" "seatWhere" "[I" ∈ tb := inT3 (List.mem_of_getElem? (i := 167) rfl) rfl
theorem k_648 : Cond.fieldLink "OldBeamsModel" 170 "OldBeamsModel" "loads" "I" ∈ tb := inT3 (List.mem_of_getElem? (i := 168) rfl) rfl
theorem k_649 : Cond.fieldLink "OldBeamsModel" 44 "OldBeamsModel" "loadBeam" "[I" ∈ tb := inT3 (List.mem_of_getElem? (i := 169) rfl) rfl
theorem k_650 : Cond.fieldLink "OldBeamsModel" 47 "OldBeamsModel" "loadPlace" "[I" ∈ tb := inT3 (List.mem_of_getElem? (i := 170) rfl) rfl
theorem k_651 : Cond.fieldLink "OldBeamsModel" 50 "OldBeamsModel" "loadWeight" "[I" ∈ tb := inT3 (List.mem_of_getElem? (i := 171) rfl) rfl
theorem k_652 : Cond.fieldLink "OldBeamsModel" 53 "OldBeamsModel" "isOff" "[Z" ∈ tb := inT3 (List.mem_of_getElem? (i := 172) rfl) rfl
theorem k_653 : Cond.fieldLink "OldBeamsModel" 173 "OldBeamsModel" "props" "I" ∈ tb := inT3 (List.mem_of_getElem? (i := 173) rfl) rfl
theorem k_654 : Cond.fieldLink "OldBeamsModel" 56 "OldBeamsModel" "propBeam" "[I" ∈ tb := inT3 (List.mem_of_getElem? (i := 174) rfl) rfl
theorem k_655 : Cond.fieldLink "OldBeamsModel" 59 "OldBeamsModel" "propPlace" "[I" ∈ tb := inT3 (List.mem_of_getElem? (i := 175) rfl) rfl
theorem k_656 : Cond.fieldLink "OldBeamsModel" 62 "OldBeamsModel" "propPush" "[I" ∈ tb := inT3 (List.mem_of_getElem? (i := 176) rfl) rfl
theorem k_657 : Cond.fieldLink "OldBeamsModel" 65 "OldBeamsModel" "isSet" "[Z" ∈ tb := inT3 (List.mem_of_getElem? (i := 177) rfl) rfl
theorem k_658 : Cond.fieldLink "OldBeamsModel" 68 "OldBeamsModel" "tryFallen" "[Z" ∈ tb := inT3 (List.mem_of_getElem? (i := 178) rfl) rfl
theorem k_659 : Cond.fieldLink "OldBeamsModel" 71 "OldBeamsModel" "trySet" "[Z" ∈ tb := inT3 (List.mem_of_getElem? (i := 179) rfl) rfl
theorem k_660 : Cond.fieldLink "OldBeamsModel" 74 "OldBeamsModel" "isDown" "[Z" ∈ tb := inT3 (List.mem_of_getElem? (i := 180) rfl) rfl
theorem k_661 : Cond.fieldLink "OldBeamsModel" 77 "OldBeamsModel" "forces" "[J" ∈ tb := inT3 (List.mem_of_getElem? (i := 181) rfl) rfl
theorem k_662 : Cond.fieldLink "OldBeamsModel" 81 "OldBeamsModel" "push" "[J" ∈ tb := inT3 (List.mem_of_getElem? (i := 182) rfl) rfl
theorem k_663 : Cond.fieldLink "OldBeamsModel" 84 "OldBeamsModel" "great" "[J" ∈ tb := inT3 (List.mem_of_getElem? (i := 183) rfl) rfl
theorem k_664 : Cond.fieldLink "OldBeamsModel" 87 "OldBeamsModel" "greatPlace" "[I" ∈ tb := inT3 (List.mem_of_getElem? (i := 184) rfl) rfl
theorem k_665 : Cond.fieldLink "OldBeamsModel" 90 "OldBeamsModel" "weight" "[I" ∈ tb := inT3 (List.mem_of_getElem? (i := 185) rfl) rfl
theorem k_666 : Cond.fieldLink "OldBeamsModel" 93 "OldBeamsModel" "often" "[I" ∈ tb := inT3 (List.mem_of_getElem? (i := 186) rfl) rfl
theorem k_667 : Cond.fieldLink "OldBeamsModel" 214 "OldBeamsModel" "looks" "I" ∈ tb := inT3 (List.mem_of_getElem? (i := 187) rfl) rfl
theorem k_668 : Cond.fieldLink "OldBeamsModel" 96 "OldBeamsModel" "lookBeam" "[I" ∈ tb := inT3 (List.mem_of_getElem? (i := 188) rfl) rfl
theorem k_669 : Cond.fieldLink "OldBeamsModel" 99 "OldBeamsModel" "lookTool" "[I" ∈ tb := inT3 (List.mem_of_getElem? (i := 189) rfl) rfl
theorem k_670 : Cond.fieldLink "OldBeamsModel" 102 "OldBeamsModel" "lookOutcome" "[I" ∈ tb := inT3 (List.mem_of_getElem? (i := 190) rfl) rfl
theorem k_671 : Cond.fieldLink "OldBeamsModel" 105 "OldBeamsModel" "lookYear" "[I" ∈ tb := inT3 (List.mem_of_getElem? (i := 191) rfl) rfl
theorem k_672 : Cond.fieldLink "OldBeamsModel" 108 "OldBeamsModel" "odds" "[J" ∈ tb := inT3 (List.mem_of_getElem? (i := 192) rfl) rfl
theorem k_673 : Cond.fieldLink "OldBeamsModel" 111 "OldBeamsModel" "next" "[J" ∈ tb := inT3 (List.mem_of_getElem? (i := 193) rfl) rfl
theorem k_674 : Cond.fieldLink "OldBeamsModel" 224 "OldBeamsModel" "firstQuarrel" "I" ∈ tb := inT3 (List.mem_of_getElem? (i := 194) rfl) rfl
theorem k_675 : Cond.fieldLink "OldBeamsModel" 253 "OldBeamsModel" "holdSum" "J" ∈ tb := inT3 (List.mem_of_getElem? (i := 195) rfl) rfl
theorem k_676 : Cond.fieldLink "OldBeamsModel" 257 "OldBeamsModel" "allSum" "J" ∈ tb := inT3 (List.mem_of_getElem? (i := 196) rfl) rfl
theorem k_677 : Cond.fieldLink "OldBeamsModel" 114 "OldBeamsModel" "fallen" "[I" ∈ tb := inT3 (List.mem_of_getElem? (i := 197) rfl) rfl
theorem k_678 : Cond.fieldLink "OldBeamsModel" 271 "OldBeamsModel" "fallMany" "I" ∈ tb := inT3 (List.mem_of_getElem? (i := 198) rfl) rfl
theorem k_679 : Cond.fieldLink "OldBeamsModel" 117 "OldBeamsModel" "mend" "I" ∈ tb := inT3 (List.mem_of_getElem? (i := 199) rfl) rfl
theorem k_680 : Cond.fieldLink "OldBeamsModel" 121 "OldBeamsModel" "loss" "I" ∈ tb := inT3 (List.mem_of_getElem? (i := 200) rfl) rfl
theorem k_772 : Cond.methodLink "OldBeamsLaw" 17 ⟨"OldBeamsModel", "kind", "(III)I"⟩ ∈ tb := inT4 (List.mem_of_getElem? (i := 52) rfl) rfl
theorem k_773 : Cond.instanceMethod ⟨"OldBeamsModel", "kind", "(III)I"⟩ ∈ tb := inT4 (List.mem_of_getElem? (i := 53) rfl) rfl
theorem k_774 : Cond.selects "OldBeamsModel" ⟨"OldBeamsModel", "kind", "(III)I"⟩ ⟨"OldBeamsModel", "kind", "(III)I"⟩ ∈ tb := inT4 (List.mem_of_getElem? (i := 54) rfl) rfl
theorem k_775 : Cond.code ⟨"OldBeamsModel", "kind", "(III)I"⟩ prog_7_method_8_code 5 (some .int) ∈ tb := inT4 (List.mem_of_getElem? (i := 55) rfl) rfl
theorem k_776 : Cond.constantLong "OldBeamsModel" 134 3 ∈ tb := inT4 (List.mem_of_getElem? (i := 56) rfl) rfl
theorem k_777 : Cond.methodLink "OldBeamsModel" 126 ⟨"OldBeamsModel", "in", "(JJJ)Z"⟩ ∈ tb := inT4 (List.mem_of_getElem? (i := 57) rfl) rfl
theorem k_778 : Cond.static ⟨"OldBeamsModel", "in", "(JJJ)Z"⟩ ∈ tb := inT4 (List.mem_of_getElem? (i := 58) rfl) rfl
theorem k_779 : Cond.code ⟨"OldBeamsModel", "in", "(JJJ)Z"⟩ prog_7_method_3_code 6 (some .boolean) ∈ tb := inT4 (List.mem_of_getElem? (i := 59) rfl) rfl
theorem k_780 : Cond.constant "OldBeamsModel" 136 (-900001) ∈ tb := inT4 (List.mem_of_getElem? (i := 60) rfl) rfl
theorem k_781 : Cond.constantLong "OldBeamsModel" 137 999 ∈ tb := inT4 (List.mem_of_getElem? (i := 61) rfl) rfl
theorem k_782 : Cond.constantLong "OldBeamsModel" 139 2 ∈ tb := inT4 (List.mem_of_getElem? (i := 62) rfl) rfl
theorem k_783 : Cond.constantLong "OldBeamsModel" 141 10 ∈ tb := inT4 (List.mem_of_getElem? (i := 63) rfl) rfl
theorem k_784 : Cond.constant "OldBeamsModel" 143 (-900002) ∈ tb := inT4 (List.mem_of_getElem? (i := 64) rfl) rfl
theorem k_785 : Cond.methodLink "OldBeamsLaw" 22 ⟨"OldBeamsModel", "beam", "(IIIII)I"⟩ ∈ tb := inT4 (List.mem_of_getElem? (i := 65) rfl) rfl
theorem k_786 : Cond.instanceMethod ⟨"OldBeamsModel", "beam", "(IIIII)I"⟩ ∈ tb := inT4 (List.mem_of_getElem? (i := 66) rfl) rfl
theorem k_787 : Cond.selects "OldBeamsModel" ⟨"OldBeamsModel", "beam", "(IIIII)I"⟩ ⟨"OldBeamsModel", "beam", "(IIIII)I"⟩ ∈ tb := inT4 (List.mem_of_getElem? (i := 67) rfl) rfl
theorem k_788 : Cond.code ⟨"OldBeamsModel", "beam", "(IIIII)I"⟩ prog_7_method_10_code 7 (some .int) ∈ tb := inT4 (List.mem_of_getElem? (i := 68) rfl) rfl
theorem k_789 : Cond.constantLong "OldBeamsModel" 147 60 ∈ tb := inT4 (List.mem_of_getElem? (i := 69) rfl) rfl
theorem k_790 : Cond.constantLong "OldBeamsModel" 149 40 ∈ tb := inT4 (List.mem_of_getElem? (i := 70) rfl) rfl
theorem k_791 : Cond.methodLink "OldBeamsModel" 151 ⟨"OldBeamsModel", "isYear", "(I)Z"⟩ ∈ tb := inT4 (List.mem_of_getElem? (i := 71) rfl) rfl
theorem k_792 : Cond.static ⟨"OldBeamsModel", "isYear", "(I)Z"⟩ ∈ tb := inT4 (List.mem_of_getElem? (i := 72) rfl) rfl
theorem k_793 : Cond.code ⟨"OldBeamsModel", "isYear", "(I)Z"⟩ prog_7_method_4_code 1 (some .boolean) ∈ tb := inT4 (List.mem_of_getElem? (i := 73) rfl) rfl
theorem k_794 : Cond.constantLong "OldBeamsModel" 124 500 ∈ tb := inT4 (List.mem_of_getElem? (i := 74) rfl) rfl
theorem k_795 : Cond.constant "OldBeamsModel" 155 (-900004) ∈ tb := inT4 (List.mem_of_getElem? (i := 75) rfl) rfl
theorem k_796 : Cond.constant "OldBeamsModel" 156 (-900009) ∈ tb := inT4 (List.mem_of_getElem? (i := 76) rfl) rfl
theorem k_797 : Cond.methodLink "OldBeamsLaw" 26 ⟨"OldBeamsModel", "seat", "(IIIII)I"⟩ ∈ tb := inT4 (List.mem_of_getElem? (i := 77) rfl) rfl
theorem k_798 : Cond.instanceMethod ⟨"OldBeamsModel", "seat", "(IIIII)I"⟩ ∈ tb := inT4 (List.mem_of_getElem? (i := 78) rfl) rfl
theorem k_799 : Cond.selects "OldBeamsModel" ⟨"OldBeamsModel", "seat", "(IIIII)I"⟩ ⟨"OldBeamsModel", "seat", "(IIIII)I"⟩ ∈ tb := inT4 (List.mem_of_getElem? (i := 79) rfl) rfl
theorem k_800 : Cond.code ⟨"OldBeamsModel", "seat", "(IIIII)I"⟩ prog_7_method_11_code 10 (some .int) ∈ tb := inT4 (List.mem_of_getElem? (i := 80) rfl) rfl
theorem k_801 : Cond.methodLink "OldBeamsModel" 157 ⟨"OldBeamsModel", "isBeam", "(I)Z"⟩ ∈ tb := inT4 (List.mem_of_getElem? (i := 81) rfl) rfl
theorem k_803 : Cond.instanceMethod ⟨"OldBeamsModel", "isBeam", "(I)Z"⟩ ∈ tb := inT4 (List.mem_of_getElem? (i := 83) rfl) rfl
theorem k_804 : Cond.code ⟨"OldBeamsModel", "isBeam", "(I)Z"⟩ prog_7_method_9_code 2 (some .boolean) ∈ tb := inT4 (List.mem_of_getElem? (i := 84) rfl) rfl
theorem k_805 : Cond.constant "OldBeamsModel" 160 (-900003) ∈ tb := inT4 (List.mem_of_getElem? (i := 85) rfl) rfl
theorem k_806 : Cond.methodLink "OldBeamsLaw" 31 ⟨"OldBeamsModel", "about", "(II)I"⟩ ∈ tb := inT4 (List.mem_of_getElem? (i := 86) rfl) rfl
theorem k_807 : Cond.instanceMethod ⟨"OldBeamsModel", "about", "(II)I"⟩ ∈ tb := inT4 (List.mem_of_getElem? (i := 87) rfl) rfl
theorem k_808 : Cond.selects "OldBeamsModel" ⟨"OldBeamsModel", "about", "(II)I"⟩ ⟨"OldBeamsModel", "about", "(II)I"⟩ ∈ tb := inT4 (List.mem_of_getElem? (i := 88) rfl) rfl
theorem k_809 : Cond.code ⟨"OldBeamsModel", "about", "(II)I"⟩ prog_7_method_13_code 3 (some .int) ∈ tb := inT4 (List.mem_of_getElem? (i := 89) rfl) rfl
theorem k_810 : Cond.methodLink "OldBeamsModel" 161 ⟨"OldBeamsModel", "layNow", "()V"⟩ ∈ tb := inT4 (List.mem_of_getElem? (i := 90) rfl) rfl
theorem k_812 : Cond.instanceMethod ⟨"OldBeamsModel", "layNow", "()V"⟩ ∈ tb := inT4 (List.mem_of_getElem? (i := 92) rfl) rfl
theorem k_813 : Cond.code ⟨"OldBeamsModel", "layNow", "()V"⟩ prog_7_method_26_code 1 none ∈ tb := inT4 (List.mem_of_getElem? (i := 93) rfl) rfl
theorem k_814 : Cond.methodLink "OldBeamsModel" 193 ⟨"OldBeamsModel", "tryNow", "()V"⟩ ∈ tb := inT4 (List.mem_of_getElem? (i := 94) rfl) rfl
theorem k_816 : Cond.instanceMethod ⟨"OldBeamsModel", "tryNow", "()V"⟩ ∈ tb := inT4 (List.mem_of_getElem? (i := 96) rfl) rfl
theorem k_817 : Cond.code ⟨"OldBeamsModel", "tryNow", "()V"⟩ prog_7_method_19_code 2 none ∈ tb := inT4 (List.mem_of_getElem? (i := 97) rfl) rfl
theorem k_818 : Cond.methodLink "OldBeamsModel" 196 ⟨"OldBeamsModel", "layTried", "()V"⟩ ∈ tb := inT4 (List.mem_of_getElem? (i := 98) rfl) rfl
theorem k_820 : Cond.instanceMethod ⟨"OldBeamsModel", "layTried", "()V"⟩ ∈ tb := inT4 (List.mem_of_getElem? (i := 100) rfl) rfl
theorem k_821 : Cond.code ⟨"OldBeamsModel", "layTried", "()V"⟩ prog_7_method_21_code 2 none ∈ tb := inT4 (List.mem_of_getElem? (i := 101) rfl) rfl
theorem k_822 : Cond.methodLink "OldBeamsModel" 176 ⟨"OldBeamsModel", "layDown", "()V"⟩ ∈ tb := inT4 (List.mem_of_getElem? (i := 102) rfl) rfl
theorem k_824 : Cond.instanceMethod ⟨"OldBeamsModel", "layDown", "()V"⟩ ∈ tb := inT4 (List.mem_of_getElem? (i := 104) rfl) rfl
theorem k_825 : Cond.code ⟨"OldBeamsModel", "layDown", "()V"⟩ prog_7_method_20_code 3 none ∈ tb := inT4 (List.mem_of_getElem? (i := 105) rfl) rfl
theorem k_826 : Cond.methodLink "OldBeamsModel" 179 ⟨"OldBeamsModel", "layPush", "(I)V"⟩ ∈ tb := inT4 (List.mem_of_getElem? (i := 106) rfl) rfl
theorem k_828 : Cond.instanceMethod ⟨"OldBeamsModel", "layPush", "(I)V"⟩ ∈ tb := inT4 (List.mem_of_getElem? (i := 108) rfl) rfl
theorem k_829 : Cond.code ⟨"OldBeamsModel", "layPush", "(I)V"⟩ prog_7_method_23_code 7 none ∈ tb := inT4 (List.mem_of_getElem? (i := 109) rfl) rfl
theorem k_830 : Cond.methodLink "OldBeamsModel" 186 ⟨"OldBeamsModel", "cutDown", "(JJ)J"⟩ ∈ tb := inT4 (List.mem_of_getElem? (i := 110) rfl) rfl
theorem k_831 : Cond.static ⟨"OldBeamsModel", "cutDown", "(JJ)J"⟩ ∈ tb := inT4 (List.mem_of_getElem? (i := 111) rfl) rfl
theorem k_832 : Cond.code ⟨"OldBeamsModel", "cutDown", "(JJ)J"⟩ prog_7_method_22_code 6 (some .long) ∈ tb := inT4 (List.mem_of_getElem? (i := 112) rfl) rfl
theorem k_833 : Cond.methodLink "OldBeamsModel" 183 ⟨"OldBeamsModel", "layGreat", "(I)V"⟩ ∈ tb := inT4 (List.mem_of_getElem? (i := 113) rfl) rfl
theorem k_835 : Cond.instanceMethod ⟨"OldBeamsModel", "layGreat", "(I)V"⟩ ∈ tb := inT4 (List.mem_of_getElem? (i := 115) rfl) rfl
theorem k_836 : Cond.code ⟨"OldBeamsModel", "layGreat", "(I)V"⟩ prog_7_method_25_code 5 none ∈ tb := inT4 (List.mem_of_getElem? (i := 116) rfl) rfl
theorem k_837 : Cond.methodLink "OldBeamsModel" 189 ⟨"OldBeamsModel", "bendingOf", "(II)J"⟩ ∈ tb := inT4 (List.mem_of_getElem? (i := 117) rfl) rfl
theorem k_839 : Cond.instanceMethod ⟨"OldBeamsModel", "bendingOf", "(II)J"⟩ ∈ tb := inT4 (List.mem_of_getElem? (i := 119) rfl) rfl
theorem k_840 : Cond.code ⟨"OldBeamsModel", "bendingOf", "(II)J"⟩ prog_7_method_24_code 6 (some .long) ∈ tb := inT4 (List.mem_of_getElem? (i := 120) rfl) rfl
theorem k_841 : Cond.methodLink "OldBeamsModel" 164 ⟨"OldBeamsModel", "whole", "(I)I"⟩ ∈ tb := inT4 (List.mem_of_getElem? (i := 121) rfl) rfl
theorem k_843 : Cond.instanceMethod ⟨"OldBeamsModel", "whole", "(I)I"⟩ ∈ tb := inT4 (List.mem_of_getElem? (i := 123) rfl) rfl
theorem k_844 : Cond.code ⟨"OldBeamsModel", "whole", "(I)I"⟩ prog_7_method_12_code 2 (some .int) ∈ tb := inT4 (List.mem_of_getElem? (i := 124) rfl) rfl
theorem k_845 : Cond.methodLink "OldBeamsLaw" 36 ⟨"OldBeamsModel", "wet", "(IZ)I"⟩ ∈ tb := inT4 (List.mem_of_getElem? (i := 125) rfl) rfl
theorem k_846 : Cond.instanceMethod ⟨"OldBeamsModel", "wet", "(IZ)I"⟩ ∈ tb := inT4 (List.mem_of_getElem? (i := 126) rfl) rfl
theorem k_847 : Cond.selects "OldBeamsModel" ⟨"OldBeamsModel", "wet", "(IZ)I"⟩ ⟨"OldBeamsModel", "wet", "(IZ)I"⟩ ∈ tb := inT4 (List.mem_of_getElem? (i := 127) rfl) rfl
theorem k_848 : Cond.code ⟨"OldBeamsModel", "wet", "(IZ)I"⟩ prog_7_method_14_code 4 (some .int) ∈ tb := inT4 (List.mem_of_getElem? (i := 128) rfl) rfl
theorem k_849 : Cond.methodLink "OldBeamsLaw" 40 ⟨"OldBeamsModel", "load", "(III)I"⟩ ∈ tb := inT4 (List.mem_of_getElem? (i := 129) rfl) rfl
theorem k_850 : Cond.instanceMethod ⟨"OldBeamsModel", "load", "(III)I"⟩ ∈ tb := inT4 (List.mem_of_getElem? (i := 130) rfl) rfl
theorem k_851 : Cond.selects "OldBeamsModel" ⟨"OldBeamsModel", "load", "(III)I"⟩ ⟨"OldBeamsModel", "load", "(III)I"⟩ ∈ tb := inT4 (List.mem_of_getElem? (i := 131) rfl) rfl
theorem k_852 : Cond.code ⟨"OldBeamsModel", "load", "(III)I"⟩ prog_7_method_15_code 4 (some .int) ∈ tb := inT4 (List.mem_of_getElem? (i := 132) rfl) rfl
theorem k_853 : Cond.constantLong "OldBeamsModel" 168 9999 ∈ tb := inT4 (List.mem_of_getElem? (i := 133) rfl) rfl
theorem k_854 : Cond.methodLink "OldBeamsLaw" 45 ⟨"OldBeamsModel", "takeOff", "(I)I"⟩ ∈ tb := inT4 (List.mem_of_getElem? (i := 134) rfl) rfl
theorem k_855 : Cond.instanceMethod ⟨"OldBeamsModel", "takeOff", "(I)I"⟩ ∈ tb := inT4 (List.mem_of_getElem? (i := 135) rfl) rfl
theorem k_856 : Cond.selects "OldBeamsModel" ⟨"OldBeamsModel", "takeOff", "(I)I"⟩ ⟨"OldBeamsModel", "takeOff", "(I)I"⟩ ∈ tb := inT4 (List.mem_of_getElem? (i := 136) rfl) rfl
theorem k_857 : Cond.code ⟨"OldBeamsModel", "takeOff", "(I)I"⟩ prog_7_method_16_code 2 (some .int) ∈ tb := inT4 (List.mem_of_getElem? (i := 137) rfl) rfl
theorem k_858 : Cond.methodLink "OldBeamsLaw" 132 ⟨"OldBeamsModel", "prop", "(III)I"⟩ ∈ tb := inT4 (List.mem_of_getElem? (i := 138) rfl) rfl
theorem k_859 : Cond.instanceMethod ⟨"OldBeamsModel", "prop", "(III)I"⟩ ∈ tb := inT4 (List.mem_of_getElem? (i := 139) rfl) rfl
theorem k_860 : Cond.selects "OldBeamsModel" ⟨"OldBeamsModel", "prop", "(III)I"⟩ ⟨"OldBeamsModel", "prop", "(III)I"⟩ ∈ tb := inT4 (List.mem_of_getElem? (i := 140) rfl) rfl
theorem k_861 : Cond.code ⟨"OldBeamsModel", "prop", "(III)I"⟩ prog_7_method_17_code 4 (some .int) ∈ tb := inT4 (List.mem_of_getElem? (i := 141) rfl) rfl
theorem k_862 : Cond.methodLink "OldBeamsLaw" 136 ⟨"OldBeamsModel", "set", "(IZ)I"⟩ ∈ tb := inT4 (List.mem_of_getElem? (i := 142) rfl) rfl
theorem k_863 : Cond.instanceMethod ⟨"OldBeamsModel", "set", "(IZ)I"⟩ ∈ tb := inT4 (List.mem_of_getElem? (i := 143) rfl) rfl
theorem k_864 : Cond.selects "OldBeamsModel" ⟨"OldBeamsModel", "set", "(IZ)I"⟩ ⟨"OldBeamsModel", "set", "(IZ)I"⟩ ∈ tb := inT4 (List.mem_of_getElem? (i := 144) rfl) rfl
theorem k_865 : Cond.code ⟨"OldBeamsModel", "set", "(IZ)I"⟩ prog_7_method_18_code 4 (some .int) ∈ tb := inT4 (List.mem_of_getElem? (i := 145) rfl) rfl
theorem k_866 : Cond.methodLink "OldBeamsLaw" 49 ⟨"OldBeamsModel", "fall", "(I)I"⟩ ∈ tb := inT4 (List.mem_of_getElem? (i := 146) rfl) rfl
theorem k_867 : Cond.instanceMethod ⟨"OldBeamsModel", "fall", "(I)I"⟩ ∈ tb := inT4 (List.mem_of_getElem? (i := 147) rfl) rfl
theorem k_868 : Cond.selects "OldBeamsModel" ⟨"OldBeamsModel", "fall", "(I)I"⟩ ⟨"OldBeamsModel", "fall", "(I)I"⟩ ∈ tb := inT4 (List.mem_of_getElem? (i := 148) rfl) rfl
theorem k_869 : Cond.code ⟨"OldBeamsModel", "fall", "(I)I"⟩ prog_7_method_30_code 2 (some .int) ∈ tb := inT4 (List.mem_of_getElem? (i := 149) rfl) rfl
theorem k_870 : Cond.methodLink "OldBeamsModel" 202 ⟨"OldBeamsModel", "downMany", "()I"⟩ ∈ tb := inT4 (List.mem_of_getElem? (i := 150) rfl) rfl
theorem k_872 : Cond.instanceMethod ⟨"OldBeamsModel", "downMany", "()I"⟩ ∈ tb := inT4 (List.mem_of_getElem? (i := 152) rfl) rfl
theorem k_873 : Cond.code ⟨"OldBeamsModel", "downMany", "()I"⟩ prog_7_method_29_code 3 (some .int) ∈ tb := inT4 (List.mem_of_getElem? (i := 153) rfl) rfl
theorem k_874 : Cond.methodLink "OldBeamsLaw" 54 ⟨"OldBeamsModel", "push", "(II)J"⟩ ∈ tb := inT4 (List.mem_of_getElem? (i := 154) rfl) rfl
theorem k_875 : Cond.instanceMethod ⟨"OldBeamsModel", "push", "(II)J"⟩ ∈ tb := inT4 (List.mem_of_getElem? (i := 155) rfl) rfl
theorem k_876 : Cond.selects "OldBeamsModel" ⟨"OldBeamsModel", "push", "(II)J"⟩ ⟨"OldBeamsModel", "push", "(II)J"⟩ ∈ tb := inT4 (List.mem_of_getElem? (i := 156) rfl) rfl
theorem k_877 : Cond.code ⟨"OldBeamsModel", "push", "(II)J"⟩ prog_7_method_32_code 4 (some .long) ∈ tb := inT4 (List.mem_of_getElem? (i := 157) rfl) rfl
theorem k_878 : Cond.methodLink "OldBeamsModel" 206 ⟨"OldBeamsModel", "mayTell", "(IZ)I"⟩ ∈ tb := inT4 (List.mem_of_getElem? (i := 158) rfl) rfl
theorem k_880 : Cond.instanceMethod ⟨"OldBeamsModel", "mayTell", "(IZ)I"⟩ ∈ tb := inT4 (List.mem_of_getElem? (i := 160) rfl) rfl
theorem k_881 : Cond.code ⟨"OldBeamsModel", "mayTell", "(IZ)I"⟩ prog_7_method_31_code 3 (some .int) ∈ tb := inT4 (List.mem_of_getElem? (i := 161) rfl) rfl
theorem k_882 : Cond.methodLink "OldBeamsLaw" 58 ⟨"OldBeamsModel", "bending", "(II)J"⟩ ∈ tb := inT4 (List.mem_of_getElem? (i := 162) rfl) rfl
theorem k_883 : Cond.instanceMethod ⟨"OldBeamsModel", "bending", "(II)J"⟩ ∈ tb := inT4 (List.mem_of_getElem? (i := 163) rfl) rfl
theorem k_884 : Cond.selects "OldBeamsModel" ⟨"OldBeamsModel", "bending", "(II)J"⟩ ⟨"OldBeamsModel", "bending", "(II)J"⟩ ∈ tb := inT4 (List.mem_of_getElem? (i := 164) rfl) rfl
theorem k_885 : Cond.code ⟨"OldBeamsModel", "bending", "(II)J"⟩ prog_7_method_33_code 4 (some .long) ∈ tb := inT4 (List.mem_of_getElem? (i := 165) rfl) rfl
theorem k_886 : Cond.methodLink "OldBeamsLaw" 63 ⟨"OldBeamsModel", "greatest", "(IZ)J"⟩ ∈ tb := inT4 (List.mem_of_getElem? (i := 166) rfl) rfl
theorem k_887 : Cond.instanceMethod ⟨"OldBeamsModel", "greatest", "(IZ)J"⟩ ∈ tb := inT4 (List.mem_of_getElem? (i := 167) rfl) rfl
theorem k_888 : Cond.selects "OldBeamsModel" ⟨"OldBeamsModel", "greatest", "(IZ)J"⟩ ⟨"OldBeamsModel", "greatest", "(IZ)J"⟩ ∈ tb := inT4 (List.mem_of_getElem? (i := 168) rfl) rfl
theorem k_889 : Cond.code ⟨"OldBeamsModel", "greatest", "(IZ)J"⟩ prog_7_method_34_code 4 (some .long) ∈ tb := inT4 (List.mem_of_getElem? (i := 169) rfl) rfl
theorem k_890 : Cond.methodLink "OldBeamsLaw" 67 ⟨"OldBeamsModel", "lifts", "(I)I"⟩ ∈ tb := inT4 (List.mem_of_getElem? (i := 170) rfl) rfl
theorem k_891 : Cond.instanceMethod ⟨"OldBeamsModel", "lifts", "(I)I"⟩ ∈ tb := inT4 (List.mem_of_getElem? (i := 171) rfl) rfl
theorem k_892 : Cond.selects "OldBeamsModel" ⟨"OldBeamsModel", "lifts", "(I)I"⟩ ⟨"OldBeamsModel", "lifts", "(I)I"⟩ ∈ tb := inT4 (List.mem_of_getElem? (i := 172) rfl) rfl
theorem k_893 : Cond.code ⟨"OldBeamsModel", "lifts", "(I)I"⟩ prog_7_method_35_code 3 (some .int) ∈ tb := inT4 (List.mem_of_getElem? (i := 173) rfl) rfl
theorem k_894 : Cond.methodLink "OldBeamsModel" 199 ⟨"OldBeamsModel", "isLifting", "(I)Z"⟩ ∈ tb := inT4 (List.mem_of_getElem? (i := 174) rfl) rfl
theorem k_896 : Cond.instanceMethod ⟨"OldBeamsModel", "isLifting", "(I)Z"⟩ ∈ tb := inT4 (List.mem_of_getElem? (i := 176) rfl) rfl
theorem k_897 : Cond.code ⟨"OldBeamsModel", "isLifting", "(I)Z"⟩ prog_7_method_27_code 2 (some .boolean) ∈ tb := inT4 (List.mem_of_getElem? (i := 177) rfl) rfl
theorem k_898 : Cond.methodLink "OldBeamsLaw" 71 ⟨"OldBeamsModel", "holds", "(II)I"⟩ ∈ tb := inT4 (List.mem_of_getElem? (i := 178) rfl) rfl
theorem k_899 : Cond.instanceMethod ⟨"OldBeamsModel", "holds", "(II)I"⟩ ∈ tb := inT4 (List.mem_of_getElem? (i := 179) rfl) rfl
theorem k_900 : Cond.selects "OldBeamsModel" ⟨"OldBeamsModel", "holds", "(II)I"⟩ ⟨"OldBeamsModel", "holds", "(II)I"⟩ ∈ tb := inT4 (List.mem_of_getElem? (i := 180) rfl) rfl
theorem k_901 : Cond.code ⟨"OldBeamsModel", "holds", "(II)I"⟩ prog_7_method_36_code 4 (some .int) ∈ tb := inT4 (List.mem_of_getElem? (i := 181) rfl) rfl
theorem k_902 : Cond.methodLink "OldBeamsModel" 210 ⟨"OldBeamsModel", "isHolding", "(II)Z"⟩ ∈ tb := inT4 (List.mem_of_getElem? (i := 182) rfl) rfl
theorem k_904 : Cond.instanceMethod ⟨"OldBeamsModel", "isHolding", "(II)Z"⟩ ∈ tb := inT4 (List.mem_of_getElem? (i := 184) rfl) rfl
theorem k_905 : Cond.code ⟨"OldBeamsModel", "isHolding", "(II)Z"⟩ prog_7_method_28_code 3 (some .boolean) ∈ tb := inT4 (List.mem_of_getElem? (i := 185) rfl) rfl
theorem k_906 : Cond.methodLink "OldBeamsLaw" 75 ⟨"OldBeamsModel", "needs", "(I)I"⟩ ∈ tb := inT4 (List.mem_of_getElem? (i := 186) rfl) rfl
theorem k_907 : Cond.instanceMethod ⟨"OldBeamsModel", "needs", "(I)I"⟩ ∈ tb := inT4 (List.mem_of_getElem? (i := 187) rfl) rfl
theorem k_908 : Cond.selects "OldBeamsModel" ⟨"OldBeamsModel", "needs", "(I)I"⟩ ⟨"OldBeamsModel", "needs", "(I)I"⟩ ∈ tb := inT4 (List.mem_of_getElem? (i := 188) rfl) rfl
theorem k_909 : Cond.code ⟨"OldBeamsModel", "needs", "(I)I"⟩ prog_7_method_37_code 4 (some .int) ∈ tb := inT4 (List.mem_of_getElem? (i := 189) rfl) rfl
theorem k_910 : Cond.methodLink "OldBeamsLaw" 79 ⟨"OldBeamsModel", "weight", "(III)I"⟩ ∈ tb := inT4 (List.mem_of_getElem? (i := 190) rfl) rfl
theorem k_911 : Cond.instanceMethod ⟨"OldBeamsModel", "weight", "(III)I"⟩ ∈ tb := inT4 (List.mem_of_getElem? (i := 191) rfl) rfl
theorem k_912 : Cond.selects "OldBeamsModel" ⟨"OldBeamsModel", "weight", "(III)I"⟩ ⟨"OldBeamsModel", "weight", "(III)I"⟩ ∈ tb := inT4 (List.mem_of_getElem? (i := 192) rfl) rfl
theorem k_913 : Cond.code ⟨"OldBeamsModel", "weight", "(III)I"⟩ prog_7_method_39_code 6 (some .int) ∈ tb := inT4 (List.mem_of_getElem? (i := 193) rfl) rfl
theorem k_914 : Cond.constantLong "OldBeamsModel" 217 99 ∈ tb := inT4 (List.mem_of_getElem? (i := 194) rfl) rfl
theorem k_915 : Cond.methodLink "OldBeamsModel" 219 ⟨"OldBeamsModel", "looksAt", "(I)I"⟩ ∈ tb := inT4 (List.mem_of_getElem? (i := 195) rfl) rfl
theorem k_917 : Cond.instanceMethod ⟨"OldBeamsModel", "looksAt", "(I)I"⟩ ∈ tb := inT4 (List.mem_of_getElem? (i := 197) rfl) rfl
theorem k_918 : Cond.code ⟨"OldBeamsModel", "looksAt", "(I)I"⟩ prog_7_method_38_code 4 (some .int) ∈ tb := inT4 (List.mem_of_getElem? (i := 198) rfl) rfl
theorem k_919 : Cond.methodLink "OldBeamsLaw" 83 ⟨"OldBeamsModel", "tool", "(III)I"⟩ ∈ tb := inT4 (List.mem_of_getElem? (i := 199) rfl) rfl
theorem k_920 : Cond.instanceMethod ⟨"OldBeamsModel", "tool", "(III)I"⟩ ∈ tb := inT4 (List.mem_of_getElem? (i := 200) rfl) rfl
theorem k_921 : Cond.selects "OldBeamsModel" ⟨"OldBeamsModel", "tool", "(III)I"⟩ ⟨"OldBeamsModel", "tool", "(III)I"⟩ ∈ tb := inT4 (List.mem_of_getElem? (i := 201) rfl) rfl
theorem k_922 : Cond.code ⟨"OldBeamsModel", "tool", "(III)I"⟩ prog_7_method_40_code 5 (some .int) ∈ tb := inT4 (List.mem_of_getElem? (i := 202) rfl) rfl
theorem k_923 : Cond.constantLong "OldBeamsModel" 222 9 ∈ tb := inT4 (List.mem_of_getElem? (i := 203) rfl) rfl
theorem k_924 : Cond.methodLink "OldBeamsLaw" 88 ⟨"OldBeamsModel", "look", "(IIII)I"⟩ ∈ tb := inT4 (List.mem_of_getElem? (i := 204) rfl) rfl
theorem k_925 : Cond.instanceMethod ⟨"OldBeamsModel", "look", "(IIII)I"⟩ ∈ tb := inT4 (List.mem_of_getElem? (i := 205) rfl) rfl
theorem k_926 : Cond.selects "OldBeamsModel" ⟨"OldBeamsModel", "look", "(IIII)I"⟩ ⟨"OldBeamsModel", "look", "(IIII)I"⟩ ∈ tb := inT4 (List.mem_of_getElem? (i := 206) rfl) rfl
theorem k_927 : Cond.code ⟨"OldBeamsModel", "look", "(IIII)I"⟩ prog_7_method_41_code 5 (some .int) ∈ tb := inT4 (List.mem_of_getElem? (i := 207) rfl) rfl
theorem k_928 : Cond.methodLink "OldBeamsLaw" 93 ⟨"OldBeamsModel", "odds", "(III)J"⟩ ∈ tb := inT4 (List.mem_of_getElem? (i := 208) rfl) rfl
theorem k_929 : Cond.instanceMethod ⟨"OldBeamsModel", "odds", "(III)J"⟩ ∈ tb := inT4 (List.mem_of_getElem? (i := 209) rfl) rfl
theorem k_930 : Cond.selects "OldBeamsModel" ⟨"OldBeamsModel", "odds", "(III)J"⟩ ⟨"OldBeamsModel", "odds", "(III)J"⟩ ∈ tb := inT4 (List.mem_of_getElem? (i := 210) rfl) rfl
theorem k_931 : Cond.code ⟨"OldBeamsModel", "odds", "(III)J"⟩ prog_7_method_45_code 4 (some .long) ∈ tb := inT4 (List.mem_of_getElem? (i := 211) rfl) rfl
theorem k_932 : Cond.constantLong "OldBeamsModel" 234 (-900001) ∈ tb := inT4 (List.mem_of_getElem? (i := 212) rfl) rfl
theorem k_933 : Cond.constantLong "OldBeamsModel" 236 (-900002) ∈ tb := inT4 (List.mem_of_getElem? (i := 213) rfl) rfl
theorem k_934 : Cond.methodLink "OldBeamsModel" 238 ⟨"OldBeamsModel", "layOdds", "(II)V"⟩ ∈ tb := inT4 (List.mem_of_getElem? (i := 214) rfl) rfl
theorem k_936 : Cond.instanceMethod ⟨"OldBeamsModel", "layOdds", "(II)V"⟩ ∈ tb := inT4 (List.mem_of_getElem? (i := 216) rfl) rfl
theorem k_937 : Cond.code ⟨"OldBeamsModel", "layOdds", "(II)V"⟩ prog_7_method_43_code 4 none ∈ tb := inT4 (List.mem_of_getElem? (i := 217) rfl) rfl
theorem k_938 : Cond.methodLink "OldBeamsModel" 227 ⟨"OldBeamsModel", "takeLook", "(I)V"⟩ ∈ tb := inT4 (List.mem_of_getElem? (i := 218) rfl) rfl
theorem k_940 : Cond.instanceMethod ⟨"OldBeamsModel", "takeLook", "(I)V"⟩ ∈ tb := inT4 (List.mem_of_getElem? (i := 220) rfl) rfl
theorem k_941 : Cond.code ⟨"OldBeamsModel", "takeLook", "(I)V"⟩ prog_7_method_44_code 5 none ∈ tb := inT4 (List.mem_of_getElem? (i := 221) rfl) rfl
theorem k_942 : Cond.methodLink "OldBeamsModel" 230 ⟨"OldBeamsModel", "comes", "(III)I"⟩ ∈ tb := inT4 (List.mem_of_getElem? (i := 222) rfl) rfl
theorem k_944 : Cond.instanceMethod ⟨"OldBeamsModel", "comes", "(III)I"⟩ ∈ tb := inT4 (List.mem_of_getElem? (i := 224) rfl) rfl
theorem k_945 : Cond.code ⟨"OldBeamsModel", "comes", "(III)I"⟩ prog_7_method_42_code 4 (some .int) ∈ tb := inT4 (List.mem_of_getElem? (i := 225) rfl) rfl
theorem k_946 : Cond.methodLink "OldBeamsModel" 130 ⟨"OldBeamsModel", "common", "(JJ)J"⟩ ∈ tb := inT4 (List.mem_of_getElem? (i := 226) rfl) rfl
theorem k_947 : Cond.static ⟨"OldBeamsModel", "common", "(JJ)J"⟩ ∈ tb := inT4 (List.mem_of_getElem? (i := 227) rfl) rfl
theorem k_948 : Cond.code ⟨"OldBeamsModel", "common", "(JJ)J"⟩ prog_7_method_5_code 10 (some .long) ∈ tb := inT4 (List.mem_of_getElem? (i := 228) rfl) rfl
theorem k_949 : Cond.methodLink "OldBeamsLaw" 97 ⟨"OldBeamsModel", "quarrel", "(II)I"⟩ ∈ tb := inT4 (List.mem_of_getElem? (i := 229) rfl) rfl
theorem k_950 : Cond.instanceMethod ⟨"OldBeamsModel", "quarrel", "(II)I"⟩ ∈ tb := inT4 (List.mem_of_getElem? (i := 230) rfl) rfl
theorem k_951 : Cond.selects "OldBeamsModel" ⟨"OldBeamsModel", "quarrel", "(II)I"⟩ ⟨"OldBeamsModel", "quarrel", "(II)I"⟩ ∈ tb := inT4 (List.mem_of_getElem? (i := 231) rfl) rfl
theorem k_952 : Cond.code ⟨"OldBeamsModel", "quarrel", "(II)I"⟩ prog_7_method_46_code 3 (some .int) ∈ tb := inT4 (List.mem_of_getElem? (i := 232) rfl) rfl
theorem k_953 : Cond.methodLink "OldBeamsLaw" 102 ⟨"OldBeamsModel", "share", "(IIIZ)I"⟩ ∈ tb := inT4 (List.mem_of_getElem? (i := 233) rfl) rfl
theorem k_954 : Cond.instanceMethod ⟨"OldBeamsModel", "share", "(IIIZ)I"⟩ ∈ tb := inT4 (List.mem_of_getElem? (i := 234) rfl) rfl
theorem k_955 : Cond.selects "OldBeamsModel" ⟨"OldBeamsModel", "share", "(IIIZ)I"⟩ ⟨"OldBeamsModel", "share", "(IIIZ)I"⟩ ∈ tb := inT4 (List.mem_of_getElem? (i := 235) rfl) rfl
theorem k_956 : Cond.code ⟨"OldBeamsModel", "share", "(IIIZ)I"⟩ prog_7_method_49_code 5 (some .int) ∈ tb := inT4 (List.mem_of_getElem? (i := 236) rfl) rfl
theorem k_957 : Cond.methodLink "OldBeamsModel" 242 ⟨"OldBeamsModel", "areYears", "(II)Z"⟩ ∈ tb := inT4 (List.mem_of_getElem? (i := 237) rfl) rfl
theorem k_958 : Cond.static ⟨"OldBeamsModel", "areYears", "(II)Z"⟩ ∈ tb := inT4 (List.mem_of_getElem? (i := 238) rfl) rfl
theorem k_959 : Cond.code ⟨"OldBeamsModel", "areYears", "(II)Z"⟩ prog_7_method_48_code 2 (some .boolean) ∈ tb := inT4 (List.mem_of_getElem? (i := 239) rfl) rfl
theorem k_960 : Cond.methodLink "OldBeamsModel" 245 ⟨"OldBeamsModel", "shareOf", "(IIIZ)I"⟩ ∈ tb := inT5 (List.mem_of_getElem? (i := 0) rfl) rfl
theorem k_962 : Cond.instanceMethod ⟨"OldBeamsModel", "shareOf", "(IIIZ)I"⟩ ∈ tb := inT5 (List.mem_of_getElem? (i := 2) rfl) rfl
theorem k_963 : Cond.code ⟨"OldBeamsModel", "shareOf", "(IIIZ)I"⟩ prog_7_method_47_code 7 (some .int) ∈ tb := inT5 (List.mem_of_getElem? (i := 3) rfl) rfl
theorem k_964 : Cond.methodLink "OldBeamsLaw" 107 ⟨"OldBeamsModel", "stands", "(IIZ)I"⟩ ∈ tb := inT5 (List.mem_of_getElem? (i := 4) rfl) rfl
theorem k_965 : Cond.instanceMethod ⟨"OldBeamsModel", "stands", "(IIZ)I"⟩ ∈ tb := inT5 (List.mem_of_getElem? (i := 5) rfl) rfl
theorem k_966 : Cond.selects "OldBeamsModel" ⟨"OldBeamsModel", "stands", "(IIZ)I"⟩ ⟨"OldBeamsModel", "stands", "(IIZ)I"⟩ ∈ tb := inT5 (List.mem_of_getElem? (i := 6) rfl) rfl
theorem k_967 : Cond.code ⟨"OldBeamsModel", "stands", "(IIZ)I"⟩ prog_7_method_51_code 4 (some .int) ∈ tb := inT5 (List.mem_of_getElem? (i := 7) rfl) rfl
theorem k_968 : Cond.methodLink "OldBeamsModel" 249 ⟨"OldBeamsModel", "isStanding", "(IIZ)Z"⟩ ∈ tb := inT5 (List.mem_of_getElem? (i := 8) rfl) rfl
theorem k_970 : Cond.instanceMethod ⟨"OldBeamsModel", "isStanding", "(IIZ)Z"⟩ ∈ tb := inT5 (List.mem_of_getElem? (i := 10) rfl) rfl
theorem k_971 : Cond.code ⟨"OldBeamsModel", "isStanding", "(IIZ)Z"⟩ prog_7_method_50_code 6 (some .boolean) ∈ tb := inT5 (List.mem_of_getElem? (i := 11) rfl) rfl
theorem k_972 : Cond.methodLink "OldBeamsLaw" 111 ⟨"OldBeamsModel", "until", "(IZ)I"⟩ ∈ tb := inT5 (List.mem_of_getElem? (i := 12) rfl) rfl
theorem k_973 : Cond.instanceMethod ⟨"OldBeamsModel", "until", "(IZ)I"⟩ ∈ tb := inT5 (List.mem_of_getElem? (i := 13) rfl) rfl
theorem k_974 : Cond.selects "OldBeamsModel" ⟨"OldBeamsModel", "until", "(IZ)I"⟩ ⟨"OldBeamsModel", "until", "(IZ)I"⟩ ∈ tb := inT5 (List.mem_of_getElem? (i := 14) rfl) rfl
theorem k_975 : Cond.code ⟨"OldBeamsModel", "until", "(IZ)I"⟩ prog_7_method_52_code 5 (some .int) ∈ tb := inT5 (List.mem_of_getElem? (i := 15) rfl) rfl
theorem k_976 : Cond.methodLink "OldBeamsLaw" 116 ⟨"OldBeamsModel", "chance", "(IIZ)J"⟩ ∈ tb := inT5 (List.mem_of_getElem? (i := 16) rfl) rfl
theorem k_977 : Cond.instanceMethod ⟨"OldBeamsModel", "chance", "(IIZ)J"⟩ ∈ tb := inT5 (List.mem_of_getElem? (i := 17) rfl) rfl
theorem k_978 : Cond.selects "OldBeamsModel" ⟨"OldBeamsModel", "chance", "(IIZ)J"⟩ ⟨"OldBeamsModel", "chance", "(IIZ)J"⟩ ∈ tb := inT5 (List.mem_of_getElem? (i := 18) rfl) rfl
theorem k_979 : Cond.code ⟨"OldBeamsModel", "chance", "(IIZ)J"⟩ prog_7_method_54_code 5 (some .long) ∈ tb := inT5 (List.mem_of_getElem? (i := 19) rfl) rfl
theorem k_980 : Cond.methodLink "OldBeamsModel" 260 ⟨"OldBeamsModel", "layChance", "(II)V"⟩ ∈ tb := inT5 (List.mem_of_getElem? (i := 20) rfl) rfl
theorem k_982 : Cond.instanceMethod ⟨"OldBeamsModel", "layChance", "(II)V"⟩ ∈ tb := inT5 (List.mem_of_getElem? (i := 22) rfl) rfl
theorem k_983 : Cond.code ⟨"OldBeamsModel", "layChance", "(II)V"⟩ prog_7_method_53_code 4 none ∈ tb := inT5 (List.mem_of_getElem? (i := 23) rfl) rfl
theorem k_984 : Cond.methodLink "OldBeamsModel" 263 ⟨"OldBeamsModel", "told", "(JJZ)J"⟩ ∈ tb := inT5 (List.mem_of_getElem? (i := 24) rfl) rfl
theorem k_985 : Cond.static ⟨"OldBeamsModel", "told", "(JJZ)J"⟩ ∈ tb := inT5 (List.mem_of_getElem? (i := 25) rfl) rfl
theorem k_986 : Cond.code ⟨"OldBeamsModel", "told", "(JJZ)J"⟩ prog_7_method_6_code 7 (some .long) ∈ tb := inT5 (List.mem_of_getElem? (i := 26) rfl) rfl
theorem k_987 : Cond.methodLink "OldBeamsLaw" 120 ⟨"OldBeamsModel", "weakest", "(I)I"⟩ ∈ tb := inT5 (List.mem_of_getElem? (i := 27) rfl) rfl
theorem k_988 : Cond.instanceMethod ⟨"OldBeamsModel", "weakest", "(I)I"⟩ ∈ tb := inT5 (List.mem_of_getElem? (i := 28) rfl) rfl
theorem k_989 : Cond.selects "OldBeamsModel" ⟨"OldBeamsModel", "weakest", "(I)I"⟩ ⟨"OldBeamsModel", "weakest", "(I)I"⟩ ∈ tb := inT5 (List.mem_of_getElem? (i := 29) rfl) rfl
theorem k_990 : Cond.code ⟨"OldBeamsModel", "weakest", "(I)I"⟩ prog_7_method_55_code 8 (some .int) ∈ tb := inT5 (List.mem_of_getElem? (i := 30) rfl) rfl
theorem k_991 : Cond.methodLink "OldBeamsModel" 267 ⟨"OldBeamsModel", "isAbove", "(JJJJ)Z"⟩ ∈ tb := inT5 (List.mem_of_getElem? (i := 31) rfl) rfl
theorem k_992 : Cond.static ⟨"OldBeamsModel", "isAbove", "(JJJJ)Z"⟩ ∈ tb := inT5 (List.mem_of_getElem? (i := 32) rfl) rfl
theorem k_993 : Cond.code ⟨"OldBeamsModel", "isAbove", "(JJJJ)Z"⟩ prog_7_method_7_code 21 (some .boolean) ∈ tb := inT5 (List.mem_of_getElem? (i := 33) rfl) rfl
theorem k_994 : Cond.methodLink "OldBeamsLaw" 124 ⟨"OldBeamsModel", "chain", "(II)I"⟩ ∈ tb := inT5 (List.mem_of_getElem? (i := 34) rfl) rfl
theorem k_995 : Cond.instanceMethod ⟨"OldBeamsModel", "chain", "(II)I"⟩ ∈ tb := inT5 (List.mem_of_getElem? (i := 35) rfl) rfl
theorem k_996 : Cond.selects "OldBeamsModel" ⟨"OldBeamsModel", "chain", "(II)I"⟩ ⟨"OldBeamsModel", "chain", "(II)I"⟩ ∈ tb := inT5 (List.mem_of_getElem? (i := 36) rfl) rfl
theorem k_997 : Cond.code ⟨"OldBeamsModel", "chain", "(II)I"⟩ prog_7_method_58_code 4 (some .int) ∈ tb := inT5 (List.mem_of_getElem? (i := 37) rfl) rfl
theorem k_998 : Cond.methodLink "OldBeamsModel" 277 ⟨"OldBeamsModel", "layFall", "(II)V"⟩ ∈ tb := inT5 (List.mem_of_getElem? (i := 38) rfl) rfl
theorem k_1000 : Cond.instanceMethod ⟨"OldBeamsModel", "layFall", "(II)V"⟩ ∈ tb := inT5 (List.mem_of_getElem? (i := 40) rfl) rfl
theorem k_1001 : Cond.code ⟨"OldBeamsModel", "layFall", "(II)V"⟩ prog_7_method_56_code 4 none ∈ tb := inT5 (List.mem_of_getElem? (i := 41) rfl) rfl
theorem k_1002 : Cond.methodLink "OldBeamsModel" 274 ⟨"OldBeamsModel", "firstFalling", "(I)I"⟩ ∈ tb := inT5 (List.mem_of_getElem? (i := 42) rfl) rfl
theorem k_1004 : Cond.instanceMethod ⟨"OldBeamsModel", "firstFalling", "(I)I"⟩ ∈ tb := inT5 (List.mem_of_getElem? (i := 44) rfl) rfl
theorem k_1005 : Cond.code ⟨"OldBeamsModel", "firstFalling", "(I)I"⟩ prog_7_method_57_code 3 (some .int) ∈ tb := inT5 (List.mem_of_getElem? (i := 45) rfl) rfl
theorem k_1006 : Cond.methodLink "OldBeamsLaw" 128 ⟨"OldBeamsModel", "chainAt", "(III)I"⟩ ∈ tb := inT5 (List.mem_of_getElem? (i := 46) rfl) rfl
theorem k_1007 : Cond.instanceMethod ⟨"OldBeamsModel", "chainAt", "(III)I"⟩ ∈ tb := inT5 (List.mem_of_getElem? (i := 47) rfl) rfl
theorem k_1008 : Cond.selects "OldBeamsModel" ⟨"OldBeamsModel", "chainAt", "(III)I"⟩ ⟨"OldBeamsModel", "chainAt", "(III)I"⟩ ∈ tb := inT5 (List.mem_of_getElem? (i := 48) rfl) rfl
theorem k_1009 : Cond.code ⟨"OldBeamsModel", "chainAt", "(III)I"⟩ prog_7_method_59_code 5 (some .int) ∈ tb := inT5 (List.mem_of_getElem? (i := 49) rfl) rfl
theorem k_1010 : Cond.methodLink "OldBeamsLaw" 140 ⟨"OldBeamsModel", "fewest", "(I)I"⟩ ∈ tb := inT5 (List.mem_of_getElem? (i := 50) rfl) rfl
theorem k_1011 : Cond.instanceMethod ⟨"OldBeamsModel", "fewest", "(I)I"⟩ ∈ tb := inT5 (List.mem_of_getElem? (i := 51) rfl) rfl
theorem k_1012 : Cond.selects "OldBeamsModel" ⟨"OldBeamsModel", "fewest", "(I)I"⟩ ⟨"OldBeamsModel", "fewest", "(I)I"⟩ ∈ tb := inT5 (List.mem_of_getElem? (i := 52) rfl) rfl
theorem k_1013 : Cond.code ⟨"OldBeamsModel", "fewest", "(I)I"⟩ prog_7_method_63_code 3 (some .int) ∈ tb := inT5 (List.mem_of_getElem? (i := 53) rfl) rfl
theorem k_1014 : Cond.methodLink "OldBeamsModel" 286 ⟨"OldBeamsModel", "bestProps", "(I)I"⟩ ∈ tb := inT5 (List.mem_of_getElem? (i := 54) rfl) rfl
theorem k_1016 : Cond.instanceMethod ⟨"OldBeamsModel", "bestProps", "(I)I"⟩ ∈ tb := inT5 (List.mem_of_getElem? (i := 56) rfl) rfl
theorem k_1017 : Cond.code ⟨"OldBeamsModel", "bestProps", "(I)I"⟩ prog_7_method_62_code 6 (some .int) ∈ tb := inT5 (List.mem_of_getElem? (i := 57) rfl) rfl
theorem k_1018 : Cond.methodLink "OldBeamsModel" 280 ⟨"OldBeamsModel", "ones", "(I)I"⟩ ∈ tb := inT5 (List.mem_of_getElem? (i := 58) rfl) rfl
theorem k_1019 : Cond.static ⟨"OldBeamsModel", "ones", "(I)I"⟩ ∈ tb := inT5 (List.mem_of_getElem? (i := 59) rfl) rfl
theorem k_1020 : Cond.code ⟨"OldBeamsModel", "ones", "(I)I"⟩ prog_7_method_60_code 3 (some .int) ∈ tb := inT5 (List.mem_of_getElem? (i := 60) rfl) rfl
theorem k_1021 : Cond.methodLink "OldBeamsModel" 283 ⟨"OldBeamsModel", "isFirst", "(II)Z"⟩ ∈ tb := inT5 (List.mem_of_getElem? (i := 61) rfl) rfl
theorem k_1022 : Cond.static ⟨"OldBeamsModel", "isFirst", "(II)Z"⟩ ∈ tb := inT5 (List.mem_of_getElem? (i := 62) rfl) rfl
theorem k_1023 : Cond.code ⟨"OldBeamsModel", "isFirst", "(II)Z"⟩ prog_7_method_61_code 3 (some .boolean) ∈ tb := inT5 (List.mem_of_getElem? (i := 63) rfl) rfl
theorem k_1024 : Cond.methodLink "OldBeamsLaw" 144 ⟨"OldBeamsModel", "needed", "(II)I"⟩ ∈ tb := inT5 (List.mem_of_getElem? (i := 64) rfl) rfl
theorem k_1025 : Cond.instanceMethod ⟨"OldBeamsModel", "needed", "(II)I"⟩ ∈ tb := inT5 (List.mem_of_getElem? (i := 65) rfl) rfl
theorem k_1026 : Cond.selects "OldBeamsModel" ⟨"OldBeamsModel", "needed", "(II)I"⟩ ⟨"OldBeamsModel", "needed", "(II)I"⟩ ∈ tb := inT5 (List.mem_of_getElem? (i := 66) rfl) rfl
theorem k_1027 : Cond.code ⟨"OldBeamsModel", "needed", "(II)I"⟩ prog_7_method_64_code 6 (some .int) ∈ tb := inT5 (List.mem_of_getElem? (i := 67) rfl) rfl
theorem k_1028 : Cond.methodLink "OldBeamsLaw" 148 ⟨"OldBeamsModel", "price", "(II)I"⟩ ∈ tb := inT5 (List.mem_of_getElem? (i := 68) rfl) rfl
theorem k_1029 : Cond.instanceMethod ⟨"OldBeamsModel", "price", "(II)I"⟩ ∈ tb := inT5 (List.mem_of_getElem? (i := 69) rfl) rfl
theorem k_1030 : Cond.selects "OldBeamsModel" ⟨"OldBeamsModel", "price", "(II)I"⟩ ⟨"OldBeamsModel", "price", "(II)I"⟩ ∈ tb := inT5 (List.mem_of_getElem? (i := 70) rfl) rfl
theorem k_1031 : Cond.code ⟨"OldBeamsModel", "price", "(II)I"⟩ prog_7_method_65_code 4 (some .int) ∈ tb := inT5 (List.mem_of_getElem? (i := 71) rfl) rfl
theorem k_1032 : Cond.methodLink "OldBeamsLaw" 152 ⟨"OldBeamsModel", "mean", "(IIZ)J"⟩ ∈ tb := inT5 (List.mem_of_getElem? (i := 72) rfl) rfl
theorem k_1033 : Cond.instanceMethod ⟨"OldBeamsModel", "mean", "(IIZ)J"⟩ ∈ tb := inT5 (List.mem_of_getElem? (i := 73) rfl) rfl
theorem k_1034 : Cond.selects "OldBeamsModel" ⟨"OldBeamsModel", "mean", "(IIZ)J"⟩ ⟨"OldBeamsModel", "mean", "(IIZ)J"⟩ ∈ tb := inT5 (List.mem_of_getElem? (i := 74) rfl) rfl
theorem k_1035 : Cond.code ⟨"OldBeamsModel", "mean", "(IIZ)J"⟩ prog_7_method_67_code 5 (some .long) ∈ tb := inT5 (List.mem_of_getElem? (i := 75) rfl) rfl
theorem k_1036 : Cond.methodLink "OldBeamsModel" 289 ⟨"OldBeamsModel", "least", "(JJ)J"⟩ ∈ tb := inT5 (List.mem_of_getElem? (i := 76) rfl) rfl
theorem k_1038 : Cond.instanceMethod ⟨"OldBeamsModel", "least", "(JJ)J"⟩ ∈ tb := inT5 (List.mem_of_getElem? (i := 78) rfl) rfl
theorem k_1039 : Cond.code ⟨"OldBeamsModel", "least", "(JJ)J"⟩ prog_7_method_66_code 9 (some .long) ∈ tb := inT5 (List.mem_of_getElem? (i := 79) rfl) rfl
theorem k_1040 : Cond.methodLink "OldBeamsLaw" 157 ⟨"OldBeamsModel", "worth", "(IIIZ)J"⟩ ∈ tb := inT5 (List.mem_of_getElem? (i := 80) rfl) rfl
theorem k_1041 : Cond.instanceMethod ⟨"OldBeamsModel", "worth", "(IIIZ)J"⟩ ∈ tb := inT5 (List.mem_of_getElem? (i := 81) rfl) rfl
theorem k_1042 : Cond.selects "OldBeamsModel" ⟨"OldBeamsModel", "worth", "(IIIZ)J"⟩ ⟨"OldBeamsModel", "worth", "(IIIZ)J"⟩ ∈ tb := inT5 (List.mem_of_getElem? (i := 82) rfl) rfl
theorem k_1043 : Cond.code ⟨"OldBeamsModel", "worth", "(IIIZ)J"⟩ prog_7_method_69_code 6 (some .long) ∈ tb := inT5 (List.mem_of_getElem? (i := 83) rfl) rfl
theorem k_1044 : Cond.methodLink "OldBeamsModel" 292 ⟨"OldBeamsModel", "worthOf", "(II)J"⟩ ∈ tb := inT5 (List.mem_of_getElem? (i := 84) rfl) rfl
theorem k_1046 : Cond.instanceMethod ⟨"OldBeamsModel", "worthOf", "(II)J"⟩ ∈ tb := inT5 (List.mem_of_getElem? (i := 86) rfl) rfl
theorem k_1047 : Cond.code ⟨"OldBeamsModel", "worthOf", "(II)J"⟩ prog_7_method_68_code 13 (some .long) ∈ tb := inT5 (List.mem_of_getElem? (i := 87) rfl) rfl
theorem k_1048 : Cond.methodLink "OldBeamsLaw" 161 ⟨"OldBeamsModel", "bestLook", "(I)I"⟩ ∈ tb := inT5 (List.mem_of_getElem? (i := 88) rfl) rfl
theorem k_1049 : Cond.instanceMethod ⟨"OldBeamsModel", "bestLook", "(I)I"⟩ ∈ tb := inT5 (List.mem_of_getElem? (i := 89) rfl) rfl
theorem k_1050 : Cond.selects "OldBeamsModel" ⟨"OldBeamsModel", "bestLook", "(I)I"⟩ ⟨"OldBeamsModel", "bestLook", "(I)I"⟩ ∈ tb := inT5 (List.mem_of_getElem? (i := 90) rfl) rfl
theorem k_1051 : Cond.code ⟨"OldBeamsModel", "bestLook", "(I)I"⟩ prog_7_method_70_code 11 (some .int) ∈ tb := inT5 (List.mem_of_getElem? (i := 91) rfl) rfl
theorem k_1052 : Cond.methodLink "OldBeamsLaw" 165 ⟨"OldBeamsModel", "count", "(I)I"⟩ ∈ tb := inT5 (List.mem_of_getElem? (i := 92) rfl) rfl
theorem k_1053 : Cond.instanceMethod ⟨"OldBeamsModel", "count", "(I)I"⟩ ∈ tb := inT5 (List.mem_of_getElem? (i := 93) rfl) rfl
theorem k_1054 : Cond.selects "OldBeamsModel" ⟨"OldBeamsModel", "count", "(I)I"⟩ ⟨"OldBeamsModel", "count", "(I)I"⟩ ∈ tb := inT5 (List.mem_of_getElem? (i := 94) rfl) rfl
theorem k_1055 : Cond.code ⟨"OldBeamsModel", "count", "(I)I"⟩ prog_7_method_71_code 5 (some .int) ∈ tb := inT5 (List.mem_of_getElem? (i := 95) rfl) rfl
theorem inP {q : MethodName × Nat} (h : q ∈ lw_privs) : Cond.selects q.1.cls q.1 q.1 ∈ tb := tb_in (List.mem_append_left _ (List.mem_map.mpr ⟨q, h, rfl⟩)) rfl
theorem kp_0 : Cond.selects "OldBeams" ⟨"OldBeams", "refusal", "(IZ)I"⟩ ⟨"OldBeams", "refusal", "(IZ)I"⟩ ∈ tb := inP (List.mem_of_getElem? (i := 0) rfl)
theorem kp_1 : Cond.selects "OldBeams$Frame" ⟨"OldBeams$Frame", "reckonAll", "(II)V"⟩ ⟨"OldBeams$Frame", "reckonAll", "(II)V"⟩ ∈ tb := inP (List.mem_of_getElem? (i := 1) rfl)
theorem kp_2 : Cond.selects "OldBeams$Frame" ⟨"OldBeams$Frame", "spreadForces", "(I)V"⟩ ⟨"OldBeams$Frame", "spreadForces", "(I)V"⟩ ∈ tb := inP (List.mem_of_getElem? (i := 2) rfl)
theorem kp_3 : Cond.selects "OldBeams$Frame" ⟨"OldBeams$Frame", "reckonBeam", "(LOldBeams$Beam;)V"⟩ ⟨"OldBeams$Frame", "reckonBeam", "(LOldBeams$Beam;)V"⟩ ∈ tb := inP (List.mem_of_getElem? (i := 3) rfl)
theorem kp_4 : Cond.selects "OldBeams$Looks" ⟨"OldBeams$Looks", "applyLook", "(II)Z"⟩ ⟨"OldBeams$Looks", "applyLook", "(II)Z"⟩ ∈ tb := inP (List.mem_of_getElem? (i := 4) rfl)
theorem kp_5 : Cond.selects "OldBeams" ⟨"OldBeams", "takeShares", "(IZ)V"⟩ ⟨"OldBeams", "takeShares", "(IZ)V"⟩ ∈ tb := inP (List.mem_of_getElem? (i := 5) rfl)
theorem kp_6 : Cond.selects "OldBeams" ⟨"OldBeams", "standsAfter", "(I)Z"⟩ ⟨"OldBeams", "standsAfter", "(I)Z"⟩ ∈ tb := inP (List.mem_of_getElem? (i := 6) rfl)
theorem kp_7 : Cond.selects "OldBeams" ⟨"OldBeams", "putChance", "(I)V"⟩ ⟨"OldBeams", "putChance", "(I)V"⟩ ∈ tb := inP (List.mem_of_getElem? (i := 7) rfl)
theorem kp_8 : Cond.selects "OldBeams" ⟨"OldBeams", "lostOdds", "(I)J"⟩ ⟨"OldBeams", "lostOdds", "(I)J"⟩ ∈ tb := inP (List.mem_of_getElem? (i := 8) rfl)
theorem kp_9 : Cond.selects "OldBeams$Frame" ⟨"OldBeams$Frame", "firstNotHolding", "(I[I)I"⟩ ⟨"OldBeams$Frame", "firstNotHolding", "(I[I)I"⟩ ∈ tb := inP (List.mem_of_getElem? (i := 9) rfl)
theorem kp_10 : Cond.selects "OldBeams$Frame" ⟨"OldBeams$Frame", "standsWith", "(I[I)Z"⟩ ⟨"OldBeams$Frame", "standsWith", "(I[I)Z"⟩ ∈ tb := inP (List.mem_of_getElem? (i := 10) rfl)
theorem kp_11 : Cond.selects "OldBeams" ⟨"OldBeams", "putMean", "(I)V"⟩ ⟨"OldBeams", "putMean", "(I)V"⟩ ∈ tb := inP (List.mem_of_getElem? (i := 11) rfl)
theorem kp_12 : Cond.selects "OldBeams" ⟨"OldBeams", "cost", "(JJ)J"⟩ ⟨"OldBeams", "cost", "(JJ)J"⟩ ∈ tb := inP (List.mem_of_getElem? (i := 12) rfl)
theorem kp_13 : Cond.selects "OldBeams" ⟨"OldBeams", "putWorth", "(II)V"⟩ ⟨"OldBeams", "putWorth", "(II)V"⟩ ∈ tb := inP (List.mem_of_getElem? (i := 13) rfl)
theorem kp_14 : Cond.selects "OldBeamsModel" ⟨"OldBeamsModel", "isBeam", "(I)Z"⟩ ⟨"OldBeamsModel", "isBeam", "(I)Z"⟩ ∈ tb := inP (List.mem_of_getElem? (i := 14) rfl)
theorem kp_15 : Cond.selects "OldBeamsModel" ⟨"OldBeamsModel", "layNow", "()V"⟩ ⟨"OldBeamsModel", "layNow", "()V"⟩ ∈ tb := inP (List.mem_of_getElem? (i := 15) rfl)
theorem kp_16 : Cond.selects "OldBeamsModel" ⟨"OldBeamsModel", "tryNow", "()V"⟩ ⟨"OldBeamsModel", "tryNow", "()V"⟩ ∈ tb := inP (List.mem_of_getElem? (i := 16) rfl)
theorem kp_17 : Cond.selects "OldBeamsModel" ⟨"OldBeamsModel", "layTried", "()V"⟩ ⟨"OldBeamsModel", "layTried", "()V"⟩ ∈ tb := inP (List.mem_of_getElem? (i := 17) rfl)
theorem kp_18 : Cond.selects "OldBeamsModel" ⟨"OldBeamsModel", "layDown", "()V"⟩ ⟨"OldBeamsModel", "layDown", "()V"⟩ ∈ tb := inP (List.mem_of_getElem? (i := 18) rfl)
theorem kp_19 : Cond.selects "OldBeamsModel" ⟨"OldBeamsModel", "layPush", "(I)V"⟩ ⟨"OldBeamsModel", "layPush", "(I)V"⟩ ∈ tb := inP (List.mem_of_getElem? (i := 19) rfl)
theorem kp_20 : Cond.selects "OldBeamsModel" ⟨"OldBeamsModel", "layGreat", "(I)V"⟩ ⟨"OldBeamsModel", "layGreat", "(I)V"⟩ ∈ tb := inP (List.mem_of_getElem? (i := 20) rfl)
theorem kp_21 : Cond.selects "OldBeamsModel" ⟨"OldBeamsModel", "bendingOf", "(II)J"⟩ ⟨"OldBeamsModel", "bendingOf", "(II)J"⟩ ∈ tb := inP (List.mem_of_getElem? (i := 21) rfl)
theorem kp_22 : Cond.selects "OldBeamsModel" ⟨"OldBeamsModel", "whole", "(I)I"⟩ ⟨"OldBeamsModel", "whole", "(I)I"⟩ ∈ tb := inP (List.mem_of_getElem? (i := 22) rfl)
theorem kp_23 : Cond.selects "OldBeamsModel" ⟨"OldBeamsModel", "downMany", "()I"⟩ ⟨"OldBeamsModel", "downMany", "()I"⟩ ∈ tb := inP (List.mem_of_getElem? (i := 23) rfl)
theorem kp_24 : Cond.selects "OldBeamsModel" ⟨"OldBeamsModel", "mayTell", "(IZ)I"⟩ ⟨"OldBeamsModel", "mayTell", "(IZ)I"⟩ ∈ tb := inP (List.mem_of_getElem? (i := 24) rfl)
theorem kp_25 : Cond.selects "OldBeamsModel" ⟨"OldBeamsModel", "isLifting", "(I)Z"⟩ ⟨"OldBeamsModel", "isLifting", "(I)Z"⟩ ∈ tb := inP (List.mem_of_getElem? (i := 25) rfl)
theorem kp_26 : Cond.selects "OldBeamsModel" ⟨"OldBeamsModel", "isHolding", "(II)Z"⟩ ⟨"OldBeamsModel", "isHolding", "(II)Z"⟩ ∈ tb := inP (List.mem_of_getElem? (i := 26) rfl)
theorem kp_27 : Cond.selects "OldBeamsModel" ⟨"OldBeamsModel", "looksAt", "(I)I"⟩ ⟨"OldBeamsModel", "looksAt", "(I)I"⟩ ∈ tb := inP (List.mem_of_getElem? (i := 27) rfl)
theorem kp_28 : Cond.selects "OldBeamsModel" ⟨"OldBeamsModel", "layOdds", "(II)V"⟩ ⟨"OldBeamsModel", "layOdds", "(II)V"⟩ ∈ tb := inP (List.mem_of_getElem? (i := 28) rfl)
theorem kp_29 : Cond.selects "OldBeamsModel" ⟨"OldBeamsModel", "takeLook", "(I)V"⟩ ⟨"OldBeamsModel", "takeLook", "(I)V"⟩ ∈ tb := inP (List.mem_of_getElem? (i := 29) rfl)
theorem kp_30 : Cond.selects "OldBeamsModel" ⟨"OldBeamsModel", "comes", "(III)I"⟩ ⟨"OldBeamsModel", "comes", "(III)I"⟩ ∈ tb := inP (List.mem_of_getElem? (i := 30) rfl)
theorem kp_31 : Cond.selects "OldBeamsModel" ⟨"OldBeamsModel", "shareOf", "(IIIZ)I"⟩ ⟨"OldBeamsModel", "shareOf", "(IIIZ)I"⟩ ∈ tb := inP (List.mem_of_getElem? (i := 31) rfl)
theorem kp_32 : Cond.selects "OldBeamsModel" ⟨"OldBeamsModel", "isStanding", "(IIZ)Z"⟩ ⟨"OldBeamsModel", "isStanding", "(IIZ)Z"⟩ ∈ tb := inP (List.mem_of_getElem? (i := 32) rfl)
theorem kp_33 : Cond.selects "OldBeamsModel" ⟨"OldBeamsModel", "layChance", "(II)V"⟩ ⟨"OldBeamsModel", "layChance", "(II)V"⟩ ∈ tb := inP (List.mem_of_getElem? (i := 33) rfl)
theorem kp_34 : Cond.selects "OldBeamsModel" ⟨"OldBeamsModel", "layFall", "(II)V"⟩ ⟨"OldBeamsModel", "layFall", "(II)V"⟩ ∈ tb := inP (List.mem_of_getElem? (i := 34) rfl)
theorem kp_35 : Cond.selects "OldBeamsModel" ⟨"OldBeamsModel", "firstFalling", "(I)I"⟩ ⟨"OldBeamsModel", "firstFalling", "(I)I"⟩ ∈ tb := inP (List.mem_of_getElem? (i := 35) rfl)
theorem kp_36 : Cond.selects "OldBeamsModel" ⟨"OldBeamsModel", "bestProps", "(I)I"⟩ ⟨"OldBeamsModel", "bestProps", "(I)I"⟩ ∈ tb := inP (List.mem_of_getElem? (i := 36) rfl)
theorem kp_37 : Cond.selects "OldBeamsModel" ⟨"OldBeamsModel", "least", "(JJ)J"⟩ ⟨"OldBeamsModel", "least", "(JJ)J"⟩ ∈ tb := inP (List.mem_of_getElem? (i := 37) rfl)
theorem kp_38 : Cond.selects "OldBeamsModel" ⟨"OldBeamsModel", "worthOf", "(II)J"⟩ ⟨"OldBeamsModel", "worthOf", "(II)J"⟩ ∈ tb := inP (List.mem_of_getElem? (i := 38) rfl)
