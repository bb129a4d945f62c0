theorem wu_0 : Cond.selects "PairedGates" ⟨"PairedGates", "laneAt", "(I)LPairedGates$Lane;"⟩ ⟨"PairedGates", "laneAt", "(I)LPairedGates$Lane;"⟩ ∈ ac_U := ac_mem (i := 0) (by decide +kernel) rfl
theorem wu_2 : Cond.selects "PairedGates$Blobs" ⟨"PairedGates$Blobs", "addBeam", "(I)V"⟩ ⟨"PairedGates$Blobs", "addBeam", "(I)V"⟩ ∈ ac_U := ac_mem (i := 2) (by decide +kernel) rfl
theorem wu_3 : Cond.selects "PairedGates$Lane" ⟨"PairedGates$Lane", "sendBodies", "(LPairedGates$Refunds;)I"⟩ ⟨"PairedGates$Lane", "sendBodies", "(LPairedGates$Refunds;)I"⟩ ∈ ac_U := ac_mem (i := 3) (by decide +kernel) rfl
theorem wu_4 : Cond.selects "PairedGates$Lane" ⟨"PairedGates$Lane", "countLeaver", "(LPairedGates$Body;LPairedGates$Refunds;)V"⟩ ⟨"PairedGates$Lane", "countLeaver", "(LPairedGates$Body;LPairedGates$Refunds;)V"⟩ ∈ ac_U := ac_mem (i := 4) (by decide +kernel) rfl
theorem wu_5 : Cond.selects "PairedGates$Body" ⟨"PairedGates$Body", "endsHigh", "()Z"⟩ ⟨"PairedGates$Body", "endsHigh", "()Z"⟩ ∈ ac_U := ac_mem (i := 5) (by decide +kernel) rfl
theorem wu_6 : Cond.selects "PairedGates$Body" ⟨"PairedGates$Body", "startsLow", "()Z"⟩ ⟨"PairedGates$Body", "startsLow", "()Z"⟩ ∈ ac_U := ac_mem (i := 6) (by decide +kernel) rfl
theorem wu_7 : Cond.selects "PairedGates$Lane" ⟨"PairedGates$Lane", "renewRow", "(I)V"⟩ ⟨"PairedGates$Lane", "renewRow", "(I)V"⟩ ∈ ac_U := ac_mem (i := 7) (by decide +kernel) rfl
theorem wu_8 : Cond.selects "PairedGates$Lane" ⟨"PairedGates$Lane", "sharersOf", "(I)I"⟩ ⟨"PairedGates$Lane", "sharersOf", "(I)I"⟩ ∈ ac_U := ac_mem (i := 8) (by decide +kernel) rfl
theorem wu_9 : Cond.selects "PairedGates$Lane" ⟨"PairedGates$Lane", "shareBlob", "(III)I"⟩ ⟨"PairedGates$Lane", "shareBlob", "(III)I"⟩ ∈ ac_U := ac_mem (i := 9) (by decide +kernel) rfl
theorem wu_10 : Cond.selects "PairedGates$Lane" ⟨"PairedGates$Lane", "sideFor", "(I)I"⟩ ⟨"PairedGates$Lane", "sideFor", "(I)I"⟩ ∈ ac_U := ac_mem (i := 10) (by decide +kernel) rfl
theorem wu_11 : Cond.selects "PairedGates$Lane" ⟨"PairedGates$Lane", "handOutTokens", "()V"⟩ ⟨"PairedGates$Lane", "handOutTokens", "()V"⟩ ∈ ac_U := ac_mem (i := 11) (by decide +kernel) rfl
theorem wu_12 : Cond.selects "PairedGates$Lane" ⟨"PairedGates$Lane", "someBodyHasToken", "()Z"⟩ ⟨"PairedGates$Lane", "someBodyHasToken", "()Z"⟩ ∈ ac_U := ac_mem (i := 12) (by decide +kernel) rfl
theorem wu_13 : Cond.selects "PairedGatesModel" ⟨"PairedGatesModel", "refused", "(I)Z"⟩ ⟨"PairedGatesModel", "refused", "(I)Z"⟩ ∈ ac_U := ac_mem (i := 13) (by decide +kernel) rfl
theorem wu_14 : Cond.selects "PairedGatesModel" ⟨"PairedGatesModel", "tick", "(I)I"⟩ ⟨"PairedGatesModel", "tick", "(I)I"⟩ ∈ ac_U := ac_mem (i := 14) (by decide +kernel) rfl
theorem wu_15 : Cond.selects "PairedGatesModel" ⟨"PairedGatesModel", "takeOldest", "(I)I"⟩ ⟨"PairedGatesModel", "takeOldest", "(I)I"⟩ ∈ ac_U := ac_mem (i := 15) (by decide +kernel) rfl
theorem wu_16 : Cond.selects "PairedGatesModel" ⟨"PairedGatesModel", "giveBack", "(I)V"⟩ ⟨"PairedGatesModel", "giveBack", "(I)V"⟩ ∈ ac_U := ac_mem (i := 16) (by decide +kernel) rfl
theorem wu_17 : Cond.selects "PairedGatesModel" ⟨"PairedGatesModel", "look", "(I)V"⟩ ⟨"PairedGatesModel", "look", "(I)V"⟩ ∈ ac_U := ac_mem (i := 17) (by decide +kernel) rfl
theorem wu_18 : Cond.selects "PairedGatesModel" ⟨"PairedGatesModel", "goOn", "(I)I"⟩ ⟨"PairedGatesModel", "goOn", "(I)I"⟩ ∈ ac_U := ac_mem (i := 18) (by decide +kernel) rfl
theorem wu_19 : Cond.selects "PairedGatesModel" ⟨"PairedGatesModel", "meets", "(III)Z"⟩ ⟨"PairedGatesModel", "meets", "(III)Z"⟩ ∈ ac_U := ac_mem (i := 19) (by decide +kernel) rfl
theorem wu_20 : Cond.selects "PairedGatesModel" ⟨"PairedGatesModel", "leave", "(II)V"⟩ ⟨"PairedGatesModel", "leave", "(II)V"⟩ ∈ ac_U := ac_mem (i := 20) (by decide +kernel) rfl
theorem wu_21 : Cond.selects "PairedGatesModel" ⟨"PairedGatesModel", "copy", "(II)V"⟩ ⟨"PairedGatesModel", "copy", "(II)V"⟩ ∈ ac_U := ac_mem (i := 21) (by decide +kernel) rfl
theorem wu_22 : Cond.selects "PairedGatesModel" ⟨"PairedGatesModel", "share", "(II)V"⟩ ⟨"PairedGatesModel", "share", "(II)V"⟩ ∈ ac_U := ac_mem (i := 22) (by decide +kernel) rfl
theorem wu_23 : Cond.selects "PairedGatesModel" ⟨"PairedGatesModel", "begin", "(II)V"⟩ ⟨"PairedGatesModel", "begin", "(II)V"⟩ ∈ ac_U := ac_mem (i := 23) (by decide +kernel) rfl
theorem wu_24 : Cond.selects "PairedGatesModel" ⟨"PairedGatesModel", "pay", "(I)V"⟩ ⟨"PairedGatesModel", "pay", "(I)V"⟩ ∈ ac_U := ac_mem (i := 24) (by decide +kernel) rfl
theorem wu_25 : Cond.selects "PairedGatesModel" ⟨"PairedGatesModel", "turn", "(I)V"⟩ ⟨"PairedGatesModel", "turn", "(I)V"⟩ ∈ ac_U := ac_mem (i := 25) (by decide +kernel) rfl
theorem wu_26 : Cond.selects "PairedGatesModel" ⟨"PairedGatesModel", "hasSide", "(II)Z"⟩ ⟨"PairedGatesModel", "hasSide", "(II)Z"⟩ ∈ ac_U := ac_mem (i := 26) (by decide +kernel) rfl
theorem wu_27 : Cond.selects "PairedGatesModel" ⟨"PairedGatesModel", "isRepeated", "(I)Z"⟩ ⟨"PairedGatesModel", "isRepeated", "(I)Z"⟩ ∈ ac_U := ac_mem (i := 27) (by decide +kernel) rfl
theorem wu_28 : Cond.initialized "PairedGatesLaw" ∈ ac_U := ac_mem (i := 28) (by decide +kernel) rfl
theorem wu_29 : Cond.initialized "PairedGates" ∈ ac_U := ac_mem (i := 29) (by decide +kernel) rfl
theorem wu_30 : Cond.initialized "PairedGates$Lane" ∈ ac_U := ac_mem (i := 30) (by decide +kernel) rfl
theorem wu_31 : Cond.initialized "PairedGates$Eye" ∈ ac_U := ac_mem (i := 31) (by decide +kernel) rfl
theorem wu_32 : Cond.initialized "PairedGates$Blobs" ∈ ac_U := ac_mem (i := 32) (by decide +kernel) rfl
theorem wu_33 : Cond.initialized "PairedGates$Paddles" ∈ ac_U := ac_mem (i := 33) (by decide +kernel) rfl
theorem wu_34 : Cond.initialized "PairedGates$TokenList" ∈ ac_U := ac_mem (i := 34) (by decide +kernel) rfl
theorem wu_35 : Cond.initialized "java/lang/Math" ∈ ac_U := ac_mem (i := 35) (by decide +kernel) rfl
theorem wu_36 : Cond.initialized "PairedGates$Body" ∈ ac_U := ac_mem (i := 36) (by decide +kernel) rfl
theorem wu_37 : Cond.initialized "PairedGates$Refunds" ∈ ac_U := ac_mem (i := 37) (by decide +kernel) rfl
theorem wu_38 : Cond.initialized "PairedGatesModel" ∈ ac_U := ac_mem (i := 38) (by decide +kernel) rfl
theorem wu_42 : Cond.initialized "java/lang/IndexOutOfBoundsException" ∈ ac_U := ac_mem (i := 42) (by decide +kernel) rfl
theorem wu_43 : Cond.initialized "java/lang/IllegalArgumentException" ∈ ac_U := ac_mem (i := 43) (by decide +kernel) rfl
theorem wu_44 : Cond.initialized "java/lang/IllegalStateException" ∈ ac_U := ac_mem (i := 44) (by decide +kernel) rfl
theorem wu_45 : Cond.classLink "PairedGatesLaw" 8 "PairedGates" ∈ ac_U := ac_mem (i := 45) (by decide +kernel) rfl
theorem wu_46 : Cond.instantiable "PairedGates" 5 ∈ ac_U := ac_mem (i := 46) (by decide +kernel) rfl
theorem wu_47 : Cond.methodLink "PairedGatesLaw" 58 ⟨"PairedGates", "<init>", "()V"⟩ ∈ ac_U := ac_mem (i := 47) (by decide +kernel) rfl
theorem wu_48 : Cond.instanceMethod ⟨"PairedGates", "<init>", "()V"⟩ ∈ ac_U := ac_mem (i := 48) (by decide +kernel) rfl
set_option maxRecDepth 100000 in
theorem wu_49 : Cond.code ⟨"PairedGates", "<init>", "()V"⟩ prog_1_method_1_code 1 none ∈ ac_U := ac_mem (i := 49) rfl rfl
theorem wu_50 : Cond.methodLink "PairedGates" 1 ⟨"java/lang/Object", "<init>", "()V"⟩ ∈ ac_U := ac_mem (i := 50) (by decide +kernel) rfl
theorem wu_51 : Cond.instanceMethod ⟨"java/lang/Object", "<init>", "()V"⟩ ∈ ac_U := ac_mem (i := 51) (by decide +kernel) rfl
set_option maxRecDepth 100000 in
theorem wu_52 : Cond.code ⟨"java/lang/Object", "<init>", "()V"⟩ object_method_1_code 1 none ∈ ac_U := ac_mem (i := 52) rfl rfl
theorem wu_53 : Cond.classLink "PairedGates" 7 "PairedGates$Lane" ∈ ac_U := ac_mem (i := 53) (by decide +kernel) rfl
theorem wu_55 : Cond.instantiable "PairedGates$Lane" 10 ∈ ac_U := ac_mem (i := 55) (by decide +kernel) rfl
theorem wu_57 : Cond.instanceMethod ⟨"PairedGates$Lane", "<init>", "()V"⟩ ∈ ac_U := ac_mem (i := 57) (by decide +kernel) rfl
set_option maxRecDepth 100000 in
theorem wu_58 : Cond.code ⟨"PairedGates$Lane", "<init>", "()V"⟩ prog_5_method_1_code 1 none ∈ ac_U := ac_mem (i := 58) rfl rfl
theorem wu_59 : Cond.methodLink "PairedGates$Lane" 3 ⟨"java/lang/Object", "<init>", "()V"⟩ ∈ ac_U := ac_mem (i := 59) (by decide +kernel) rfl
theorem wu_60 : Cond.classLink "PairedGates$Lane" 9 "PairedGates$Eye" ∈ ac_U := ac_mem (i := 60) (by decide +kernel) rfl
theorem wu_61 : Cond.instantiable "PairedGates$Eye" 4 ∈ ac_U := ac_mem (i := 61) (by decide +kernel) rfl
theorem wu_63 : Cond.instanceMethod ⟨"PairedGates$Eye", "<init>", "()V"⟩ ∈ ac_U := ac_mem (i := 63) (by decide +kernel) rfl
set_option maxRecDepth 100000 in
theorem wu_64 : Cond.code ⟨"PairedGates$Eye", "<init>", "()V"⟩ prog_4_method_1_code 1 none ∈ ac_U := ac_mem (i := 64) rfl rfl
theorem wu_65 : Cond.methodLink "PairedGates$Eye" 3 ⟨"java/lang/Object", "<init>", "()V"⟩ ∈ ac_U := ac_mem (i := 65) (by decide +kernel) rfl
theorem wu_66 : Cond.fieldLink "PairedGates$Eye" 9 "PairedGates$Eye" "told" "I" ∈ ac_U := ac_mem (i := 66) (by decide +kernel) rfl
theorem wu_67 : Cond.fieldLink "PairedGates$Eye" 15 "PairedGates$Eye" "latest" "I" ∈ ac_U := ac_mem (i := 67) (by decide +kernel) rfl
theorem wu_68 : Cond.fieldLink "PairedGates$Eye" 18 "PairedGates$Eye" "earlier" "I" ∈ ac_U := ac_mem (i := 68) (by decide +kernel) rfl
theorem wu_69 : Cond.fieldLink "PairedGates$Eye" 21 "PairedGates$Eye" "seen" "I" ∈ ac_U := ac_mem (i := 69) (by decide +kernel) rfl
theorem wu_70 : Cond.fieldLink "PairedGates$Lane" 84 "PairedGates$Eye" "seen" "I" ∈ ac_U := ac_mem (i := 70) (by decide +kernel) rfl
theorem wu_71 : Cond.fieldLink "PairedGates" 150 "PairedGates$Eye" "seen" "I" ∈ ac_U := ac_mem (i := 71) (by decide +kernel) rfl
theorem wu_72 : Cond.lays "PairedGates$Eye" "PairedGates$Eye" "told" "I" ∈ ac_U := ac_mem (i := 72) (by decide +kernel) rfl
theorem wu_74 : Cond.lays "PairedGates$Eye" "PairedGates$Eye" "latest" "I" ∈ ac_U := ac_mem (i := 74) (by decide +kernel) rfl
theorem wu_76 : Cond.lays "PairedGates$Eye" "PairedGates$Eye" "earlier" "I" ∈ ac_U := ac_mem (i := 76) (by decide +kernel) rfl
theorem wu_78 : Cond.lays "PairedGates$Eye" "PairedGates$Eye" "seen" "I" ∈ ac_U := ac_mem (i := 78) (by decide +kernel) rfl
theorem wu_81 : Cond.classLink "PairedGates$Lane" 18 "PairedGates$Blobs" ∈ ac_U := ac_mem (i := 81) (by decide +kernel) rfl
theorem wu_82 : Cond.instantiable "PairedGates$Blobs" 3 ∈ ac_U := ac_mem (i := 82) (by decide +kernel) rfl
theorem wu_84 : Cond.instanceMethod ⟨"PairedGates$Blobs", "<init>", "()V"⟩ ∈ ac_U := ac_mem (i := 84) (by decide +kernel) rfl
set_option maxRecDepth 100000 in
theorem wu_85 : Cond.code ⟨"PairedGates$Blobs", "<init>", "()V"⟩ prog_2_method_1_code 1 none ∈ ac_U := ac_mem (i := 85) rfl rfl
theorem wu_86 : Cond.methodLink "PairedGates$Blobs" 3 ⟨"java/lang/Object", "<init>", "()V"⟩ ∈ ac_U := ac_mem (i := 86) (by decide +kernel) rfl
theorem wu_87 : Cond.fieldLink "PairedGates$Blobs" 9 "PairedGates$Blobs" "first" "[I" ∈ ac_U := ac_mem (i := 87) (by decide +kernel) rfl
theorem wu_88 : Cond.fieldLink "PairedGates$Lane" 141 "PairedGates$Blobs" "first" "[I" ∈ ac_U := ac_mem (i := 88) (by decide +kernel) rfl
theorem wu_89 : Cond.fieldLink "PairedGates$Blobs" 15 "PairedGates$Blobs" "last" "[I" ∈ ac_U := ac_mem (i := 89) (by decide +kernel) rfl
theorem wu_90 : Cond.fieldLink "PairedGates$Lane" 144 "PairedGates$Blobs" "last" "[I" ∈ ac_U := ac_mem (i := 90) (by decide +kernel) rfl
theorem wu_91 : Cond.fieldLink "PairedGates$Blobs" 18 "PairedGates$Blobs" "size" "I" ∈ ac_U := ac_mem (i := 91) (by decide +kernel) rfl
theorem wu_92 : Cond.fieldLink "PairedGates$Lane" 132 "PairedGates$Blobs" "size" "I" ∈ ac_U := ac_mem (i := 92) (by decide +kernel) rfl
theorem wu_93 : Cond.laysFinal "PairedGates$Blobs" "PairedGates$Blobs" "first" "[I" ∈ ac_U := ac_mem (i := 93) (by decide +kernel) rfl
theorem wu_95 : Cond.laysFinal "PairedGates$Blobs" "PairedGates$Blobs" "last" "[I" ∈ ac_U := ac_mem (i := 95) (by decide +kernel) rfl
theorem wu_97 : Cond.lays "PairedGates$Blobs" "PairedGates$Blobs" "size" "I" ∈ ac_U := ac_mem (i := 97) (by decide +kernel) rfl
theorem wu_100 : Cond.arrayClass .int ∈ ac_U := ac_mem (i := 100) (by decide +kernel) rfl
theorem wu_101 : Cond.classLink "PairedGates$Lane" 25 "PairedGates$Paddles" ∈ ac_U := ac_mem (i := 101) (by decide +kernel) rfl
theorem wu_102 : Cond.instantiable "PairedGates$Paddles" 2 ∈ ac_U := ac_mem (i := 102) (by decide +kernel) rfl
theorem wu_104 : Cond.instanceMethod ⟨"PairedGates$Paddles", "<init>", "()V"⟩ ∈ ac_U := ac_mem (i := 104) (by decide +kernel) rfl
set_option maxRecDepth 100000 in
theorem wu_105 : Cond.code ⟨"PairedGates$Paddles", "<init>", "()V"⟩ prog_6_method_1_code 1 none ∈ ac_U := ac_mem (i := 105) rfl rfl
theorem wu_106 : Cond.methodLink "PairedGates$Paddles" 3 ⟨"java/lang/Object", "<init>", "()V"⟩ ∈ ac_U := ac_mem (i := 106) (by decide +kernel) rfl
theorem wu_107 : Cond.fieldLink "PairedGates$Paddles" 9 "PairedGates$Paddles" "angle" "I" ∈ ac_U := ac_mem (i := 107) (by decide +kernel) rfl
theorem wu_108 : Cond.fieldLink "PairedGates" 142 "PairedGates$Paddles" "angle" "I" ∈ ac_U := ac_mem (i := 108) (by decide +kernel) rfl
theorem wu_109 : Cond.fieldLink "PairedGates$Paddles" 15 "PairedGates$Paddles" "order" "I" ∈ ac_U := ac_mem (i := 109) (by decide +kernel) rfl
theorem wu_110 : Cond.fieldLink "PairedGates" 147 "PairedGates$Paddles" "order" "I" ∈ ac_U := ac_mem (i := 110) (by decide +kernel) rfl
theorem wu_111 : Cond.lays "PairedGates$Paddles" "PairedGates$Paddles" "angle" "I" ∈ ac_U := ac_mem (i := 111) (by decide +kernel) rfl
theorem wu_113 : Cond.lays "PairedGates$Paddles" "PairedGates$Paddles" "order" "I" ∈ ac_U := ac_mem (i := 113) (by decide +kernel) rfl
theorem wu_116 : Cond.classLink "PairedGates$Lane" 32 "PairedGates$TokenList" ∈ ac_U := ac_mem (i := 116) (by decide +kernel) rfl
theorem wu_118 : Cond.instantiable "PairedGates$TokenList" 3 ∈ ac_U := ac_mem (i := 118) (by decide +kernel) rfl
theorem wu_119 : Cond.methodLink "PairedGates$Lane" 34 ⟨"PairedGates$TokenList", "<init>", "(I)V"⟩ ∈ ac_U := ac_mem (i := 119) (by decide +kernel) rfl
theorem wu_120 : Cond.instanceMethod ⟨"PairedGates$TokenList", "<init>", "(I)V"⟩ ∈ ac_U := ac_mem (i := 120) (by decide +kernel) rfl
set_option maxRecDepth 100000 in
theorem wu_121 : Cond.code ⟨"PairedGates$TokenList", "<init>", "(I)V"⟩ prog_8_method_1_code 3 none ∈ ac_U := ac_mem (i := 121) rfl rfl
theorem wu_122 : Cond.methodLink "PairedGates$TokenList" 3 ⟨"java/lang/Object", "<init>", "()V"⟩ ∈ ac_U := ac_mem (i := 122) (by decide +kernel) rfl
theorem wu_123 : Cond.methodLink "PairedGates$TokenList" 15 ⟨"java/lang/Math", "max", "(II)I"⟩ ∈ ac_U := ac_mem (i := 123) (by decide +kernel) rfl
theorem wu_124 : Cond.static ⟨"java/lang/Math", "max", "(II)I"⟩ ∈ ac_U := ac_mem (i := 124) (by decide +kernel) rfl
set_option maxRecDepth 100000 in
theorem wu_125 : Cond.code ⟨"java/lang/Math", "max", "(II)I"⟩ prog_15_method_65_code 2 (some (.int)) ∈ ac_U := ac_mem (i := 125) rfl rfl
theorem wu_126 : Cond.fieldLink "PairedGates$TokenList" 21 "PairedGates$TokenList" "accounts" "[I" ∈ ac_U := ac_mem (i := 126) (by decide +kernel) rfl
theorem wu_127 : Cond.fieldLink "PairedGates$TokenList" 25 "PairedGates$TokenList" "times" "[I" ∈ ac_U := ac_mem (i := 127) (by decide +kernel) rfl
theorem wu_128 : Cond.fieldLink "PairedGates$TokenList" 9 "PairedGates$TokenList" "size" "I" ∈ ac_U := ac_mem (i := 128) (by decide +kernel) rfl
theorem wu_129 : Cond.fieldLink "PairedGates" 86 "PairedGates$TokenList" "size" "I" ∈ ac_U := ac_mem (i := 129) (by decide +kernel) rfl
theorem wu_130 : Cond.laysFinal "PairedGates$TokenList" "PairedGates$TokenList" "accounts" "[I" ∈ ac_U := ac_mem (i := 130) (by decide +kernel) rfl
theorem wu_132 : Cond.laysFinal "PairedGates$TokenList" "PairedGates$TokenList" "times" "[I" ∈ ac_U := ac_mem (i := 132) (by decide +kernel) rfl
theorem wu_134 : Cond.lays "PairedGates$TokenList" "PairedGates$TokenList" "size" "I" ∈ ac_U := ac_mem (i := 134) (by decide +kernel) rfl
theorem wu_137 : Cond.methodLink "PairedGates$Lane" 55 ⟨"PairedGates$Lane", "newRow", "()[LPairedGates$Body;"⟩ ∈ ac_U := ac_mem (i := 137) (by decide +kernel) rfl
theorem wu_138 : Cond.static ⟨"PairedGates$Lane", "newRow", "()[LPairedGates$Body;"⟩ ∈ ac_U := ac_mem (i := 138) (by decide +kernel) rfl
set_option maxRecDepth 100000 in
theorem wu_139 : Cond.code ⟨"PairedGates$Lane", "newRow", "()[LPairedGates$Body;"⟩ prog_5_method_2_code 2 (some ((.array (.object "PairedGates$Body")))) ∈ ac_U := ac_mem (i := 139) rfl rfl
theorem wu_140 : Cond.classLink "PairedGates$Lane" 66 "PairedGates$Body" ∈ ac_U := ac_mem (i := 140) (by decide +kernel) rfl
theorem wu_142 : Cond.instantiable "PairedGates$Body" 5 ∈ ac_U := ac_mem (i := 142) (by decide +kernel) rfl
theorem wu_144 : Cond.instanceMethod ⟨"PairedGates$Body", "<init>", "()V"⟩ ∈ ac_U := ac_mem (i := 144) (by decide +kernel) rfl
set_option maxRecDepth 100000 in
theorem wu_145 : Cond.code ⟨"PairedGates$Body", "<init>", "()V"⟩ prog_3_method_1_code 1 none ∈ ac_U := ac_mem (i := 145) rfl rfl
theorem wu_146 : Cond.methodLink "PairedGates$Body" 3 ⟨"java/lang/Object", "<init>", "()V"⟩ ∈ ac_U := ac_mem (i := 146) (by decide +kernel) rfl
theorem wu_147 : Cond.fieldLink "PairedGates$Body" 9 "PairedGates$Body" "first" "I" ∈ ac_U := ac_mem (i := 147) (by decide +kernel) rfl
theorem wu_148 : Cond.fieldLink "PairedGates$Blobs" 30 "PairedGates$Body" "first" "I" ∈ ac_U := ac_mem (i := 148) (by decide +kernel) rfl
theorem wu_149 : Cond.fieldLink "PairedGates" 111 "PairedGates$Body" "first" "I" ∈ ac_U := ac_mem (i := 149) (by decide +kernel) rfl
theorem wu_150 : Cond.fieldLink "PairedGates$Body" 15 "PairedGates$Body" "last" "I" ∈ ac_U := ac_mem (i := 150) (by decide +kernel) rfl
theorem wu_151 : Cond.fieldLink "PairedGates$Blobs" 34 "PairedGates$Body" "last" "I" ∈ ac_U := ac_mem (i := 151) (by decide +kernel) rfl
theorem wu_152 : Cond.fieldLink "PairedGates" 116 "PairedGates$Body" "last" "I" ∈ ac_U := ac_mem (i := 152) (by decide +kernel) rfl
theorem wu_153 : Cond.fieldLink "PairedGates$Body" 18 "PairedGates$Body" "side" "I" ∈ ac_U := ac_mem (i := 153) (by decide +kernel) rfl
theorem wu_154 : Cond.fieldLink "PairedGates" 119 "PairedGates$Body" "side" "I" ∈ ac_U := ac_mem (i := 154) (by decide +kernel) rfl
theorem wu_155 : Cond.fieldLink "PairedGates$Lane" 168 "PairedGates$Body" "side" "I" ∈ ac_U := ac_mem (i := 155) (by decide +kernel) rfl
theorem wu_156 : Cond.fieldLink "PairedGates$Body" 21 "PairedGates$Body" "account" "I" ∈ ac_U := ac_mem (i := 156) (by decide +kernel) rfl
theorem wu_157 : Cond.fieldLink "PairedGates$Lane" 115 "PairedGates$Body" "account" "I" ∈ ac_U := ac_mem (i := 157) (by decide +kernel) rfl
theorem wu_158 : Cond.fieldLink "PairedGates" 122 "PairedGates$Body" "account" "I" ∈ ac_U := ac_mem (i := 158) (by decide +kernel) rfl
theorem wu_159 : Cond.fieldLink "PairedGates$Body" 24 "PairedGates$Body" "length" "I" ∈ ac_U := ac_mem (i := 159) (by decide +kernel) rfl
theorem wu_160 : Cond.fieldLink "PairedGates$Lane" 121 "PairedGates$Body" "length" "I" ∈ ac_U := ac_mem (i := 160) (by decide +kernel) rfl
theorem wu_161 : Cond.fieldLink "PairedGates" 125 "PairedGates$Body" "length" "I" ∈ ac_U := ac_mem (i := 161) (by decide +kernel) rfl
theorem wu_162 : Cond.lays "PairedGates$Body" "PairedGates$Body" "first" "I" ∈ ac_U := ac_mem (i := 162) (by decide +kernel) rfl
theorem wu_164 : Cond.lays "PairedGates$Body" "PairedGates$Body" "last" "I" ∈ ac_U := ac_mem (i := 164) (by decide +kernel) rfl
theorem wu_166 : Cond.lays "PairedGates$Body" "PairedGates$Body" "side" "I" ∈ ac_U := ac_mem (i := 166) (by decide +kernel) rfl
theorem wu_168 : Cond.lays "PairedGates$Body" "PairedGates$Body" "account" "I" ∈ ac_U := ac_mem (i := 168) (by decide +kernel) rfl
theorem wu_170 : Cond.lays "PairedGates$Body" "PairedGates$Body" "length" "I" ∈ ac_U := ac_mem (i := 170) (by decide +kernel) rfl
theorem wu_173 : Cond.fieldLink "PairedGates$Lane" 12 "PairedGates$Lane" "eye" "LPairedGates$Eye;" ∈ ac_U := ac_mem (i := 173) (by decide +kernel) rfl
theorem wu_174 : Cond.fieldLink "PairedGates" 44 "PairedGates$Lane" "eye" "LPairedGates$Eye;" ∈ ac_U := ac_mem (i := 174) (by decide +kernel) rfl
theorem wu_175 : Cond.fieldLink "PairedGates$Lane" 21 "PairedGates$Lane" "blobs" "LPairedGates$Blobs;" ∈ ac_U := ac_mem (i := 175) (by decide +kernel) rfl
theorem wu_176 : Cond.fieldLink "PairedGates$Lane" 28 "PairedGates$Lane" "paddles" "LPairedGates$Paddles;" ∈ ac_U := ac_mem (i := 176) (by decide +kernel) rfl
theorem wu_177 : Cond.fieldLink "PairedGates" 138 "PairedGates$Lane" "paddles" "LPairedGates$Paddles;" ∈ ac_U := ac_mem (i := 177) (by decide +kernel) rfl
theorem wu_178 : Cond.fieldLink "PairedGates$Lane" 37 "PairedGates$Lane" "queues" "[LPairedGates$TokenList;" ∈ ac_U := ac_mem (i := 178) (by decide +kernel) rfl
theorem wu_179 : Cond.fieldLink "PairedGates" 160 "PairedGates$Lane" "queues" "[LPairedGates$TokenList;" ∈ ac_U := ac_mem (i := 179) (by decide +kernel) rfl
theorem wu_180 : Cond.fieldLink "PairedGates$Lane" 41 "PairedGates$Lane" "counts" "[I" ∈ ac_U := ac_mem (i := 180) (by decide +kernel) rfl
theorem wu_181 : Cond.fieldLink "PairedGates" 134 "PairedGates$Lane" "counts" "[I" ∈ ac_U := ac_mem (i := 181) (by decide +kernel) rfl
theorem wu_182 : Cond.fieldLink "PairedGates$Lane" 45 "PairedGates$Lane" "goals" "[I" ∈ ac_U := ac_mem (i := 182) (by decide +kernel) rfl
theorem wu_183 : Cond.fieldLink "PairedGates$Lane" 48 "PairedGates$Lane" "openMode" "I" ∈ ac_U := ac_mem (i := 183) (by decide +kernel) rfl
theorem wu_184 : Cond.fieldLink "PairedGates$Lane" 52 "PairedGates$Lane" "size" "I" ∈ ac_U := ac_mem (i := 184) (by decide +kernel) rfl
theorem wu_185 : Cond.fieldLink "PairedGates" 97 "PairedGates$Lane" "size" "I" ∈ ac_U := ac_mem (i := 185) (by decide +kernel) rfl
theorem wu_186 : Cond.fieldLink "PairedGates$Lane" 59 "PairedGates$Lane" "row" "[LPairedGates$Body;" ∈ ac_U := ac_mem (i := 186) (by decide +kernel) rfl
theorem wu_187 : Cond.fieldLink "PairedGates" 168 "PairedGates$Lane" "row" "[LPairedGates$Body;" ∈ ac_U := ac_mem (i := 187) (by decide +kernel) rfl
theorem wu_188 : Cond.fieldLink "PairedGates$Lane" 63 "PairedGates$Lane" "nextRow" "[LPairedGates$Body;" ∈ ac_U := ac_mem (i := 188) (by decide +kernel) rfl
theorem wu_189 : Cond.laysFinal "PairedGates$Lane" "PairedGates$Lane" "eye" "LPairedGates$Eye;" ∈ ac_U := ac_mem (i := 189) (by decide +kernel) rfl
theorem wu_191 : Cond.laysFinal "PairedGates$Lane" "PairedGates$Lane" "blobs" "LPairedGates$Blobs;" ∈ ac_U := ac_mem (i := 191) (by decide +kernel) rfl
theorem wu_193 : Cond.laysFinal "PairedGates$Lane" "PairedGates$Lane" "paddles" "LPairedGates$Paddles;" ∈ ac_U := ac_mem (i := 193) (by decide +kernel) rfl
theorem wu_195 : Cond.laysFinal "PairedGates$Lane" "PairedGates$Lane" "queues" "[LPairedGates$TokenList;" ∈ ac_U := ac_mem (i := 195) (by decide +kernel) rfl
theorem wu_197 : Cond.laysFinal "PairedGates$Lane" "PairedGates$Lane" "counts" "[I" ∈ ac_U := ac_mem (i := 197) (by decide +kernel) rfl
theorem wu_199 : Cond.laysFinal "PairedGates$Lane" "PairedGates$Lane" "goals" "[I" ∈ ac_U := ac_mem (i := 199) (by decide +kernel) rfl
theorem wu_201 : Cond.lays "PairedGates$Lane" "PairedGates$Lane" "openMode" "I" ∈ ac_U := ac_mem (i := 201) (by decide +kernel) rfl
theorem wu_203 : Cond.lays "PairedGates$Lane" "PairedGates$Lane" "size" "I" ∈ ac_U := ac_mem (i := 203) (by decide +kernel) rfl
theorem wu_205 : Cond.lays "PairedGates$Lane" "PairedGates$Lane" "row" "[LPairedGates$Body;" ∈ ac_U := ac_mem (i := 205) (by decide +kernel) rfl
theorem wu_207 : Cond.lays "PairedGates$Lane" "PairedGates$Lane" "nextRow" "[LPairedGates$Body;" ∈ ac_U := ac_mem (i := 207) (by decide +kernel) rfl
theorem wu_210 : Cond.classLink "PairedGates" 16 "PairedGates$TokenList" ∈ ac_U := ac_mem (i := 210) (by decide +kernel) rfl
theorem wu_211 : Cond.methodLink "PairedGates" 18 ⟨"PairedGates$TokenList", "<init>", "(I)V"⟩ ∈ ac_U := ac_mem (i := 211) (by decide +kernel) rfl
theorem wu_212 : Cond.classLink "PairedGates" 25 "PairedGates$Refunds" ∈ ac_U := ac_mem (i := 212) (by decide +kernel) rfl
theorem wu_213 : Cond.instantiable "PairedGates$Refunds" 2 ∈ ac_U := ac_mem (i := 213) (by decide +kernel) rfl
theorem wu_215 : Cond.instanceMethod ⟨"PairedGates$Refunds", "<init>", "()V"⟩ ∈ ac_U := ac_mem (i := 215) (by decide +kernel) rfl
set_option maxRecDepth 100000 in
theorem wu_216 : Cond.code ⟨"PairedGates$Refunds", "<init>", "()V"⟩ prog_7_method_1_code 1 none ∈ ac_U := ac_mem (i := 216) rfl rfl
theorem wu_217 : Cond.methodLink "PairedGates$Refunds" 3 ⟨"java/lang/Object", "<init>", "()V"⟩ ∈ ac_U := ac_mem (i := 217) (by decide +kernel) rfl
theorem wu_218 : Cond.fieldLink "PairedGates$Refunds" 9 "PairedGates$Refunds" "accounts" "[I" ∈ ac_U := ac_mem (i := 218) (by decide +kernel) rfl
theorem wu_219 : Cond.fieldLink "PairedGates$Refunds" 15 "PairedGates$Refunds" "size" "I" ∈ ac_U := ac_mem (i := 219) (by decide +kernel) rfl
theorem wu_220 : Cond.fieldLink "PairedGates" 153 "PairedGates$Refunds" "size" "I" ∈ ac_U := ac_mem (i := 220) (by decide +kernel) rfl
theorem wu_221 : Cond.laysFinal "PairedGates$Refunds" "PairedGates$Refunds" "accounts" "[I" ∈ ac_U := ac_mem (i := 221) (by decide +kernel) rfl
theorem wu_223 : Cond.lays "PairedGates$Refunds" "PairedGates$Refunds" "size" "I" ∈ ac_U := ac_mem (i := 223) (by decide +kernel) rfl
theorem wu_226 : Cond.fieldLink "PairedGates" 10 "PairedGates" "lanes" "[LPairedGates$Lane;" ∈ ac_U := ac_mem (i := 226) (by decide +kernel) rfl
theorem wu_227 : Cond.fieldLink "PairedGates" 21 "PairedGates" "acceptances" "LPairedGates$TokenList;" ∈ ac_U := ac_mem (i := 227) (by decide +kernel) rfl
theorem wu_228 : Cond.fieldLink "PairedGates" 28 "PairedGates" "refundList" "LPairedGates$Refunds;" ∈ ac_U := ac_mem (i := 228) (by decide +kernel) rfl
theorem wu_229 : Cond.fieldLink "PairedGates" 32 "PairedGates" "alarmOn" "Z" ∈ ac_U := ac_mem (i := 229) (by decide +kernel) rfl
theorem wu_230 : Cond.fieldLink "PairedGates" 36 "PairedGates" "now" "I" ∈ ac_U := ac_mem (i := 230) (by decide +kernel) rfl
theorem wu_231 : Cond.laysFinal "PairedGates" "PairedGates" "lanes" "[LPairedGates$Lane;" ∈ ac_U := ac_mem (i := 231) (by decide +kernel) rfl
theorem wu_233 : Cond.laysFinal "PairedGates" "PairedGates" "acceptances" "LPairedGates$TokenList;" ∈ ac_U := ac_mem (i := 233) (by decide +kernel) rfl
theorem wu_235 : Cond.laysFinal "PairedGates" "PairedGates" "refundList" "LPairedGates$Refunds;" ∈ ac_U := ac_mem (i := 235) (by decide +kernel) rfl
theorem wu_237 : Cond.lays "PairedGates" "PairedGates" "alarmOn" "Z" ∈ ac_U := ac_mem (i := 237) (by decide +kernel) rfl
theorem wu_239 : Cond.lays "PairedGates" "PairedGates" "now" "I" ∈ ac_U := ac_mem (i := 239) (by decide +kernel) rfl
theorem wu_242 : Cond.methodLink "PairedGatesLaw" 87 ⟨"PairedGates", "alarm", "(Z)V"⟩ ∈ ac_U := ac_mem (i := 242) (by decide +kernel) rfl
theorem wu_243 : Cond.instanceMethod ⟨"PairedGates", "alarm", "(Z)V"⟩ ∈ ac_U := ac_mem (i := 243) (by decide +kernel) rfl
theorem wu_244 : Cond.selects "PairedGates" ⟨"PairedGates", "alarm", "(Z)V"⟩ ⟨"PairedGates", "alarm", "(Z)V"⟩ ∈ ac_U := ac_mem (i := 244) (by decide +kernel) rfl
set_option maxRecDepth 100000 in
theorem wu_245 : Cond.code ⟨"PairedGates", "alarm", "(Z)V"⟩ prog_1_method_7_code 2 none ∈ ac_U := ac_mem (i := 245) rfl rfl
theorem wu_246 : Cond.methodLink "PairedGatesLaw" 92 ⟨"PairedGates", "time", "()I"⟩ ∈ ac_U := ac_mem (i := 246) (by decide +kernel) rfl
theorem wu_247 : Cond.instanceMethod ⟨"PairedGates", "time", "()I"⟩ ∈ ac_U := ac_mem (i := 247) (by decide +kernel) rfl
theorem wu_248 : Cond.selects "PairedGates" ⟨"PairedGates", "time", "()I"⟩ ⟨"PairedGates", "time", "()I"⟩ ∈ ac_U := ac_mem (i := 248) (by decide +kernel) rfl
set_option maxRecDepth 100000 in
theorem wu_249 : Cond.code ⟨"PairedGates", "time", "()I"⟩ prog_1_method_8_code 1 (some (.int)) ∈ ac_U := ac_mem (i := 249) rfl rfl
theorem wu_250 : Cond.methodLink "PairedGatesLaw" 120 ⟨"PairedGates", "accepted", "()I"⟩ ∈ ac_U := ac_mem (i := 250) (by decide +kernel) rfl
theorem wu_251 : Cond.instanceMethod ⟨"PairedGates", "accepted", "()I"⟩ ∈ ac_U := ac_mem (i := 251) (by decide +kernel) rfl
theorem wu_252 : Cond.selects "PairedGates" ⟨"PairedGates", "accepted", "()I"⟩ ⟨"PairedGates", "accepted", "()I"⟩ ∈ ac_U := ac_mem (i := 252) (by decide +kernel) rfl
set_option maxRecDepth 100000 in
theorem wu_253 : Cond.code ⟨"PairedGates", "accepted", "()I"⟩ prog_1_method_17_code 1 (some (.int)) ∈ ac_U := ac_mem (i := 253) rfl rfl
theorem wu_254 : Cond.methodLink "PairedGatesLaw" 124 ⟨"PairedGates", "refunds", "()I"⟩ ∈ ac_U := ac_mem (i := 254) (by decide +kernel) rfl
theorem wu_255 : Cond.instanceMethod ⟨"PairedGates", "refunds", "()I"⟩ ∈ ac_U := ac_mem (i := 255) (by decide +kernel) rfl
theorem wu_256 : Cond.selects "PairedGates" ⟨"PairedGates", "refunds", "()I"⟩ ⟨"PairedGates", "refunds", "()I"⟩ ∈ ac_U := ac_mem (i := 256) (by decide +kernel) rfl
set_option maxRecDepth 100000 in
theorem wu_257 : Cond.code ⟨"PairedGates", "refunds", "()I"⟩ prog_1_method_18_code 1 (some (.int)) ∈ ac_U := ac_mem (i := 257) rfl rfl
theorem wu_258 : Cond.methodLink "PairedGatesLaw" 128 ⟨"PairedGates", "refund", "(I)I"⟩ ∈ ac_U := ac_mem (i := 258) (by decide +kernel) rfl
theorem wu_259 : Cond.instanceMethod ⟨"PairedGates", "refund", "(I)I"⟩ ∈ ac_U := ac_mem (i := 259) (by decide +kernel) rfl
theorem wu_260 : Cond.selects "PairedGates" ⟨"PairedGates", "refund", "(I)I"⟩ ⟨"PairedGates", "refund", "(I)I"⟩ ∈ ac_U := ac_mem (i := 260) (by decide +kernel) rfl
set_option maxRecDepth 100000 in
theorem wu_261 : Cond.code ⟨"PairedGates", "refund", "(I)I"⟩ prog_1_method_19_code 2 (some (.int)) ∈ ac_U := ac_mem (i := 261) rfl rfl
theorem wu_262 : Cond.methodLink "PairedGates" 154 ⟨"PairedGates$Refunds", "accountAt", "(I)I"⟩ ∈ ac_U := ac_mem (i := 262) (by decide +kernel) rfl
theorem wu_263 : Cond.instanceMethod ⟨"PairedGates$Refunds", "accountAt", "(I)I"⟩ ∈ ac_U := ac_mem (i := 263) (by decide +kernel) rfl
theorem wu_264 : Cond.selects "PairedGates$Refunds" ⟨"PairedGates$Refunds", "accountAt", "(I)I"⟩ ⟨"PairedGates$Refunds", "accountAt", "(I)I"⟩ ∈ ac_U := ac_mem (i := 264) (by decide +kernel) rfl
set_option maxRecDepth 100000 in
theorem wu_265 : Cond.code ⟨"PairedGates$Refunds", "accountAt", "(I)I"⟩ prog_7_method_3_code 2 (some (.int)) ∈ ac_U := ac_mem (i := 265) rfl rfl
theorem wu_266 : Cond.methodLink "PairedGatesLaw" 62 ⟨"PairedGatesLaw", "beams", "(LPairedGates;II)I"⟩ ∈ ac_U := ac_mem (i := 266) (by decide +kernel) rfl
theorem wu_267 : Cond.static ⟨"PairedGatesLaw", "beams", "(LPairedGates;II)I"⟩ ∈ ac_U := ac_mem (i := 267) (by decide +kernel) rfl
set_option maxRecDepth 100000 in
theorem wu_268 : Cond.codeWith ⟨"PairedGatesLaw", "beams", "(LPairedGates;II)I"⟩ method_3_code 4 (some (.int)) [(0, 6, 9, 13)] ∈ ac_U := ac_mem (i := 268) rfl rfl
theorem wu_269 : Cond.classLink "PairedGatesLaw" 13 "java/lang/IndexOutOfBoundsException" ∈ ac_U := ac_mem (i := 269) (by decide +kernel) rfl
theorem wu_270 : Cond.methodLink "PairedGatesLaw" 7 ⟨"PairedGates", "beams", "(II)V"⟩ ∈ ac_U := ac_mem (i := 270) (by decide +kernel) rfl
theorem wu_271 : Cond.instanceMethod ⟨"PairedGates", "beams", "(II)V"⟩ ∈ ac_U := ac_mem (i := 271) (by decide +kernel) rfl
theorem wu_272 : Cond.selects "PairedGates" ⟨"PairedGates", "beams", "(II)V"⟩ ⟨"PairedGates", "beams", "(II)V"⟩ ∈ ac_U := ac_mem (i := 272) (by decide +kernel) rfl
set_option maxRecDepth 100000 in
theorem wu_273 : Cond.code ⟨"PairedGates", "beams", "(II)V"⟩ prog_1_method_2_code 3 none ∈ ac_U := ac_mem (i := 273) rfl rfl
theorem wu_274 : Cond.methodLink "PairedGates" 40 ⟨"PairedGates", "laneAt", "(I)LPairedGates$Lane;"⟩ ∈ ac_U := ac_mem (i := 274) (by decide +kernel) rfl
theorem wu_276 : Cond.instanceMethod ⟨"PairedGates", "laneAt", "(I)LPairedGates$Lane;"⟩ ∈ ac_U := ac_mem (i := 276) (by decide +kernel) rfl
set_option maxRecDepth 100000 in
theorem wu_277 : Cond.code ⟨"PairedGates", "laneAt", "(I)LPairedGates$Lane;"⟩ prog_1_method_20_code 2 (some ((.object "PairedGates$Lane"))) ∈ ac_U := ac_mem (i := 277) rfl rfl
theorem wu_278 : Cond.classLink "PairedGates" 155 "java/lang/IndexOutOfBoundsException" ∈ ac_U := ac_mem (i := 278) (by decide +kernel) rfl
theorem wu_346 : Cond.methodLink "PairedGates" 48 ⟨"PairedGates$Eye", "tell", "(I)V"⟩ ∈ ac_U := ac_mem (i := 346) (by decide +kernel) rfl
theorem wu_347 : Cond.instanceMethod ⟨"PairedGates$Eye", "tell", "(I)V"⟩ ∈ ac_U := ac_mem (i := 347) (by decide +kernel) rfl
theorem wu_348 : Cond.selects "PairedGates$Eye" ⟨"PairedGates$Eye", "tell", "(I)V"⟩ ⟨"PairedGates$Eye", "tell", "(I)V"⟩ ∈ ac_U := ac_mem (i := 348) (by decide +kernel) rfl
set_option maxRecDepth 100000 in
theorem wu_349 : Cond.code ⟨"PairedGates$Eye", "tell", "(I)V"⟩ prog_4_method_2_code 2 none ∈ ac_U := ac_mem (i := 349) rfl rfl
theorem wu_350 : Cond.methodLink "PairedGatesLaw" 72 ⟨"PairedGatesLaw", "ticks", "(LPairedGates;I[J)I"⟩ ∈ ac_U := ac_mem (i := 350) (by decide +kernel) rfl
theorem wu_351 : Cond.static ⟨"PairedGatesLaw", "ticks", "(LPairedGates;I[J)I"⟩ ∈ ac_U := ac_mem (i := 351) (by decide +kernel) rfl
set_option maxRecDepth 100000 in
theorem wu_352 : Cond.codeWith ⟨"PairedGatesLaw", "ticks", "(LPairedGates;I[J)I"⟩ method_4_code 4 (some (.int)) [(0, 9, 12, 19)] ∈ ac_U := ac_mem (i := 352) rfl rfl
theorem wu_353 : Cond.classLink "PairedGatesLaw" 19 "java/lang/IllegalArgumentException" ∈ ac_U := ac_mem (i := 353) (by decide +kernel) rfl
theorem wu_354 : Cond.methodLink "PairedGatesLaw" 15 ⟨"PairedGates", "ticks", "(I)I"⟩ ∈ ac_U := ac_mem (i := 354) (by decide +kernel) rfl
theorem wu_355 : Cond.instanceMethod ⟨"PairedGates", "ticks", "(I)I"⟩ ∈ ac_U := ac_mem (i := 355) (by decide +kernel) rfl
theorem wu_356 : Cond.selects "PairedGates" ⟨"PairedGates", "ticks", "(I)I"⟩ ⟨"PairedGates", "ticks", "(I)I"⟩ ∈ ac_U := ac_mem (i := 356) (by decide +kernel) rfl
set_option maxRecDepth 100000 in
theorem wu_357 : Cond.code ⟨"PairedGates", "ticks", "(I)I"⟩ prog_1_method_3_code 5 (some (.int)) ∈ ac_U := ac_mem (i := 357) rfl rfl
theorem wu_358 : Cond.classLink "PairedGates" 53 "java/lang/IllegalArgumentException" ∈ ac_U := ac_mem (i := 358) (by decide +kernel) rfl
theorem wu_374 : Cond.methodLink "PairedGates" 60 ⟨"PairedGates$Lane", "tick", "(IZLPairedGates$Refunds;)I"⟩ ∈ ac_U := ac_mem (i := 374) (by decide +kernel) rfl
theorem wu_375 : Cond.instanceMethod ⟨"PairedGates$Lane", "tick", "(IZLPairedGates$Refunds;)I"⟩ ∈ ac_U := ac_mem (i := 375) (by decide +kernel) rfl
theorem wu_376 : Cond.selects "PairedGates$Lane" ⟨"PairedGates$Lane", "tick", "(IZLPairedGates$Refunds;)I"⟩ ⟨"PairedGates$Lane", "tick", "(IZLPairedGates$Refunds;)I"⟩ ∈ ac_U := ac_mem (i := 376) (by decide +kernel) rfl
set_option maxRecDepth 100000 in
theorem wu_377 : Cond.code ⟨"PairedGates$Lane", "tick", "(IZLPairedGates$Refunds;)I"⟩ prog_5_method_5_code 5 (some (.int)) ∈ ac_U := ac_mem (i := 377) rfl rfl
theorem wu_378 : Cond.methodLink "PairedGates$Lane" 77 ⟨"PairedGates$TokenList", "refundExpired", "(ILPairedGates$Refunds;)V"⟩ ∈ ac_U := ac_mem (i := 378) (by decide +kernel) rfl
theorem wu_379 : Cond.instanceMethod ⟨"PairedGates$TokenList", "refundExpired", "(ILPairedGates$Refunds;)V"⟩ ∈ ac_U := ac_mem (i := 379) (by decide +kernel) rfl
theorem wu_380 : Cond.selects "PairedGates$TokenList" ⟨"PairedGates$TokenList", "refundExpired", "(ILPairedGates$Refunds;)V"⟩ ⟨"PairedGates$TokenList", "refundExpired", "(ILPairedGates$Refunds;)V"⟩ ∈ ac_U := ac_mem (i := 380) (by decide +kernel) rfl
set_option maxRecDepth 100000 in
theorem wu_381 : Cond.code ⟨"PairedGates$TokenList", "refundExpired", "(ILPairedGates$Refunds;)V"⟩ prog_8_method_7_code 5 none ∈ ac_U := ac_mem (i := 381) rfl rfl
theorem wu_382 : Cond.methodLink "PairedGates$TokenList" 28 ⟨"PairedGates$TokenList", "removeOldest", "()I"⟩ ∈ ac_U := ac_mem (i := 382) (by decide +kernel) rfl
theorem wu_383 : Cond.instanceMethod ⟨"PairedGates$TokenList", "removeOldest", "()I"⟩ ∈ ac_U := ac_mem (i := 383) (by decide +kernel) rfl
theorem wu_384 : Cond.selects "PairedGates$TokenList" ⟨"PairedGates$TokenList", "removeOldest", "()I"⟩ ⟨"PairedGates$TokenList", "removeOldest", "()I"⟩ ∈ ac_U := ac_mem (i := 384) (by decide +kernel) rfl
set_option maxRecDepth 100000 in
theorem wu_385 : Cond.code ⟨"PairedGates$TokenList", "removeOldest", "()I"⟩ prog_8_method_6_code 3 (some (.int)) ∈ ac_U := ac_mem (i := 385) rfl rfl
theorem wu_386 : Cond.methodLink "PairedGates$TokenList" 32 ⟨"PairedGates$Refunds", "add", "(I)V"⟩ ∈ ac_U := ac_mem (i := 386) (by decide +kernel) rfl
theorem wu_387 : Cond.instanceMethod ⟨"PairedGates$Refunds", "add", "(I)V"⟩ ∈ ac_U := ac_mem (i := 387) (by decide +kernel) rfl
theorem wu_388 : Cond.selects "PairedGates$Refunds" ⟨"PairedGates$Refunds", "add", "(I)V"⟩ ⟨"PairedGates$Refunds", "add", "(I)V"⟩ ∈ ac_U := ac_mem (i := 388) (by decide +kernel) rfl
set_option maxRecDepth 100000 in
theorem wu_389 : Cond.code ⟨"PairedGates$Refunds", "add", "(I)V"⟩ prog_7_method_2_code 2 none ∈ ac_U := ac_mem (i := 389) rfl rfl
theorem wu_390 : Cond.methodLink "PairedGates$Lane" 81 ⟨"PairedGates$Eye", "take", "()V"⟩ ∈ ac_U := ac_mem (i := 390) (by decide +kernel) rfl
theorem wu_391 : Cond.instanceMethod ⟨"PairedGates$Eye", "take", "()V"⟩ ∈ ac_U := ac_mem (i := 391) (by decide +kernel) rfl
theorem wu_392 : Cond.selects "PairedGates$Eye" ⟨"PairedGates$Eye", "take", "()V"⟩ ⟨"PairedGates$Eye", "take", "()V"⟩ ∈ ac_U := ac_mem (i := 392) (by decide +kernel) rfl
set_option maxRecDepth 100000 in
theorem wu_393 : Cond.code ⟨"PairedGates$Eye", "take", "()V"⟩ prog_4_method_3_code 1 none ∈ ac_U := ac_mem (i := 393) rfl rfl
theorem wu_394 : Cond.methodLink "PairedGates$Lane" 87 ⟨"PairedGates$Blobs", "find", "(I)V"⟩ ∈ ac_U := ac_mem (i := 394) (by decide +kernel) rfl
theorem wu_395 : Cond.instanceMethod ⟨"PairedGates$Blobs", "find", "(I)V"⟩ ∈ ac_U := ac_mem (i := 395) (by decide +kernel) rfl
theorem wu_396 : Cond.selects "PairedGates$Blobs" ⟨"PairedGates$Blobs", "find", "(I)V"⟩ ⟨"PairedGates$Blobs", "find", "(I)V"⟩ ∈ ac_U := ac_mem (i := 396) (by decide +kernel) rfl
set_option maxRecDepth 100000 in
theorem wu_397 : Cond.code ⟨"PairedGates$Blobs", "find", "(I)V"⟩ prog_2_method_2_code 3 none ∈ ac_U := ac_mem (i := 397) rfl rfl
theorem wu_398 : Cond.methodLink "PairedGates$Blobs" 22 ⟨"PairedGates$Blobs", "addBeam", "(I)V"⟩ ∈ ac_U := ac_mem (i := 398) (by decide +kernel) rfl
theorem wu_400 : Cond.instanceMethod ⟨"PairedGates$Blobs", "addBeam", "(I)V"⟩ ∈ ac_U := ac_mem (i := 400) (by decide +kernel) rfl
set_option maxRecDepth 100000 in
theorem wu_401 : Cond.code ⟨"PairedGates$Blobs", "addBeam", "(I)V"⟩ prog_2_method_3_code 2 none ∈ ac_U := ac_mem (i := 401) rfl rfl
theorem wu_402 : Cond.methodLink "PairedGates$Lane" 90 ⟨"PairedGates$Lane", "sendBodies", "(LPairedGates$Refunds;)I"⟩ ∈ ac_U := ac_mem (i := 402) (by decide +kernel) rfl
theorem wu_404 : Cond.instanceMethod ⟨"PairedGates$Lane", "sendBodies", "(LPairedGates$Refunds;)I"⟩ ∈ ac_U := ac_mem (i := 404) (by decide +kernel) rfl
set_option maxRecDepth 100000 in
theorem wu_405 : Cond.code ⟨"PairedGates$Lane", "sendBodies", "(LPairedGates$Refunds;)I"⟩ prog_5_method_6_code 4 (some (.int)) ∈ ac_U := ac_mem (i := 405) rfl rfl
theorem wu_406 : Cond.methodLink "PairedGates$Lane" 107 ⟨"PairedGates$Blobs", "firstMetBy", "(LPairedGates$Body;)I"⟩ ∈ ac_U := ac_mem (i := 406) (by decide +kernel) rfl
theorem wu_407 : Cond.instanceMethod ⟨"PairedGates$Blobs", "firstMetBy", "(LPairedGates$Body;)I"⟩ ∈ ac_U := ac_mem (i := 407) (by decide +kernel) rfl
theorem wu_408 : Cond.selects "PairedGates$Blobs" ⟨"PairedGates$Blobs", "firstMetBy", "(LPairedGates$Body;)I"⟩ ⟨"PairedGates$Blobs", "firstMetBy", "(LPairedGates$Body;)I"⟩ ∈ ac_U := ac_mem (i := 408) (by decide +kernel) rfl
set_option maxRecDepth 100000 in
theorem wu_409 : Cond.code ⟨"PairedGates$Blobs", "firstMetBy", "(LPairedGates$Body;)I"⟩ prog_2_method_4_code 3 (some (.int)) ∈ ac_U := ac_mem (i := 409) rfl rfl
theorem wu_410 : Cond.methodLink "PairedGates$Blobs" 26 ⟨"PairedGates$Blobs", "isMetBy", "(LPairedGates$Body;I)Z"⟩ ∈ ac_U := ac_mem (i := 410) (by decide +kernel) rfl
theorem wu_411 : Cond.instanceMethod ⟨"PairedGates$Blobs", "isMetBy", "(LPairedGates$Body;I)Z"⟩ ∈ ac_U := ac_mem (i := 411) (by decide +kernel) rfl
theorem wu_412 : Cond.selects "PairedGates$Blobs" ⟨"PairedGates$Blobs", "isMetBy", "(LPairedGates$Body;I)Z"⟩ ⟨"PairedGates$Blobs", "isMetBy", "(LPairedGates$Body;I)Z"⟩ ∈ ac_U := ac_mem (i := 412) (by decide +kernel) rfl
set_option maxRecDepth 100000 in
theorem wu_413 : Cond.code ⟨"PairedGates$Blobs", "isMetBy", "(LPairedGates$Body;I)Z"⟩ prog_2_method_5_code 3 (some (.boolean)) ∈ ac_U := ac_mem (i := 413) rfl rfl
theorem wu_414 : Cond.methodLink "PairedGates$Lane" 111 ⟨"PairedGates$Lane", "countLeaver", "(LPairedGates$Body;LPairedGates$Refunds;)V"⟩ ∈ ac_U := ac_mem (i := 414) (by decide +kernel) rfl
theorem wu_416 : Cond.instanceMethod ⟨"PairedGates$Lane", "countLeaver", "(LPairedGates$Body;LPairedGates$Refunds;)V"⟩ ∈ ac_U := ac_mem (i := 416) (by decide +kernel) rfl
set_option maxRecDepth 100000 in
theorem wu_417 : Cond.code ⟨"PairedGates$Lane", "countLeaver", "(LPairedGates$Body;LPairedGates$Refunds;)V"⟩ prog_5_method_7_code 4 none ∈ ac_U := ac_mem (i := 417) rfl rfl
theorem wu_418 : Cond.methodLink "PairedGates$Lane" 118 ⟨"PairedGates$Body", "isThrough", "()Z"⟩ ∈ ac_U := ac_mem (i := 418) (by decide +kernel) rfl
theorem wu_419 : Cond.instanceMethod ⟨"PairedGates$Body", "isThrough", "()Z"⟩ ∈ ac_U := ac_mem (i := 419) (by decide +kernel) rfl
theorem wu_420 : Cond.selects "PairedGates$Body" ⟨"PairedGates$Body", "isThrough", "()Z"⟩ ⟨"PairedGates$Body", "isThrough", "()Z"⟩ ∈ ac_U := ac_mem (i := 420) (by decide +kernel) rfl
set_option maxRecDepth 100000 in
theorem wu_421 : Cond.code ⟨"PairedGates$Body", "isThrough", "()Z"⟩ prog_3_method_4_code 1 (some (.boolean)) ∈ ac_U := ac_mem (i := 421) rfl rfl
theorem wu_422 : Cond.methodLink "PairedGates$Body" 33 ⟨"PairedGates$Body", "endsHigh", "()Z"⟩ ∈ ac_U := ac_mem (i := 422) (by decide +kernel) rfl
theorem wu_424 : Cond.instanceMethod ⟨"PairedGates$Body", "endsHigh", "()Z"⟩ ∈ ac_U := ac_mem (i := 424) (by decide +kernel) rfl
set_option maxRecDepth 100000 in
theorem wu_425 : Cond.code ⟨"PairedGates$Body", "endsHigh", "()Z"⟩ prog_3_method_8_code 1 (some (.boolean)) ∈ ac_U := ac_mem (i := 425) rfl rfl
theorem wu_426 : Cond.methodLink "PairedGates$Body" 37 ⟨"PairedGates$Body", "startsLow", "()Z"⟩ ∈ ac_U := ac_mem (i := 426) (by decide +kernel) rfl
theorem wu_428 : Cond.instanceMethod ⟨"PairedGates$Body", "startsLow", "()Z"⟩ ∈ ac_U := ac_mem (i := 428) (by decide +kernel) rfl
set_option maxRecDepth 100000 in
theorem wu_429 : Cond.code ⟨"PairedGates$Body", "startsLow", "()Z"⟩ prog_3_method_7_code 1 (some (.boolean)) ∈ ac_U := ac_mem (i := 429) rfl rfl
theorem wu_430 : Cond.methodLink "PairedGates$Lane" 124 ⟨"PairedGates$Body", "isTurned", "()Z"⟩ ∈ ac_U := ac_mem (i := 430) (by decide +kernel) rfl
theorem wu_431 : Cond.instanceMethod ⟨"PairedGates$Body", "isTurned", "()Z"⟩ ∈ ac_U := ac_mem (i := 431) (by decide +kernel) rfl
theorem wu_432 : Cond.selects "PairedGates$Body" ⟨"PairedGates$Body", "isTurned", "()Z"⟩ ⟨"PairedGates$Body", "isTurned", "()Z"⟩ ∈ ac_U := ac_mem (i := 432) (by decide +kernel) rfl
set_option maxRecDepth 100000 in
theorem wu_433 : Cond.code ⟨"PairedGates$Body", "isTurned", "()Z"⟩ prog_3_method_5_code 1 (some (.boolean)) ∈ ac_U := ac_mem (i := 433) rfl rfl
theorem wu_434 : Cond.methodLink "PairedGates$Lane" 127 ⟨"PairedGates$Refunds", "add", "(I)V"⟩ ∈ ac_U := ac_mem (i := 434) (by decide +kernel) rfl
theorem wu_435 : Cond.methodLink "PairedGates$Lane" 93 ⟨"PairedGates$Lane", "renewRow", "(I)V"⟩ ∈ ac_U := ac_mem (i := 435) (by decide +kernel) rfl
theorem wu_437 : Cond.instanceMethod ⟨"PairedGates$Lane", "renewRow", "(I)V"⟩ ∈ ac_U := ac_mem (i := 437) (by decide +kernel) rfl
set_option maxRecDepth 100000 in
theorem wu_438 : Cond.code ⟨"PairedGates$Lane", "renewRow", "(I)V"⟩ prog_5_method_8_code 6 none ∈ ac_U := ac_mem (i := 438) rfl rfl
theorem wu_439 : Cond.methodLink "PairedGates$Lane" 133 ⟨"PairedGates$Lane", "sharersOf", "(I)I"⟩ ∈ ac_U := ac_mem (i := 439) (by decide +kernel) rfl
theorem wu_441 : Cond.instanceMethod ⟨"PairedGates$Lane", "sharersOf", "(I)I"⟩ ∈ ac_U := ac_mem (i := 441) (by decide +kernel) rfl
set_option maxRecDepth 100000 in
theorem wu_442 : Cond.code ⟨"PairedGates$Lane", "sharersOf", "(I)I"⟩ prog_5_method_9_code 4 (some (.int)) ∈ ac_U := ac_mem (i := 442) rfl rfl
theorem wu_443 : Cond.methodLink "PairedGates$Lane" 137 ⟨"PairedGates$Lane", "shareBlob", "(III)I"⟩ ∈ ac_U := ac_mem (i := 443) (by decide +kernel) rfl
theorem wu_445 : Cond.instanceMethod ⟨"PairedGates$Lane", "shareBlob", "(III)I"⟩ ∈ ac_U := ac_mem (i := 445) (by decide +kernel) rfl
set_option maxRecDepth 100000 in
theorem wu_446 : Cond.code ⟨"PairedGates$Lane", "shareBlob", "(III)I"⟩ prog_5_method_10_code 11 (some (.int)) ∈ ac_U := ac_mem (i := 446) rfl rfl
theorem wu_447 : Cond.methodLink "PairedGates$Lane" 154 ⟨"java/lang/Math", "max", "(II)I"⟩ ∈ ac_U := ac_mem (i := 447) (by decide +kernel) rfl
theorem wu_448 : Cond.methodLink "PairedGates$Lane" 160 ⟨"PairedGates$Body", "follow", "(LPairedGates$Body;II)V"⟩ ∈ ac_U := ac_mem (i := 448) (by decide +kernel) rfl
theorem wu_449 : Cond.instanceMethod ⟨"PairedGates$Body", "follow", "(LPairedGates$Body;II)V"⟩ ∈ ac_U := ac_mem (i := 449) (by decide +kernel) rfl
theorem wu_450 : Cond.selects "PairedGates$Body" ⟨"PairedGates$Body", "follow", "(LPairedGates$Body;II)V"⟩ ⟨"PairedGates$Body", "follow", "(LPairedGates$Body;II)V"⟩ ∈ ac_U := ac_mem (i := 450) (by decide +kernel) rfl
set_option maxRecDepth 100000 in
theorem wu_451 : Cond.code ⟨"PairedGates$Body", "follow", "(LPairedGates$Body;II)V"⟩ prog_3_method_3_code 4 none ∈ ac_U := ac_mem (i := 451) rfl rfl
theorem wu_452 : Cond.methodLink "PairedGates$Body" 27 ⟨"java/lang/Math", "max", "(II)I"⟩ ∈ ac_U := ac_mem (i := 452) (by decide +kernel) rfl
theorem wu_453 : Cond.methodLink "PairedGates$Lane" 147 ⟨"PairedGates$Lane", "sideFor", "(I)I"⟩ ∈ ac_U := ac_mem (i := 453) (by decide +kernel) rfl
theorem wu_455 : Cond.instanceMethod ⟨"PairedGates$Lane", "sideFor", "(I)I"⟩ ∈ ac_U := ac_mem (i := 455) (by decide +kernel) rfl
set_option maxRecDepth 100000 in
theorem wu_456 : Cond.code ⟨"PairedGates$Lane", "sideFor", "(I)I"⟩ prog_5_method_11_code 3 (some (.int)) ∈ ac_U := ac_mem (i := 456) rfl rfl
theorem wu_457 : Cond.methodLink "PairedGates$Lane" 164 ⟨"PairedGates$Blobs", "isMetBy", "(LPairedGates$Body;I)Z"⟩ ∈ ac_U := ac_mem (i := 457) (by decide +kernel) rfl
theorem wu_458 : Cond.methodLink "PairedGates$Lane" 150 ⟨"PairedGates$Body", "enter", "(III)V"⟩ ∈ ac_U := ac_mem (i := 458) (by decide +kernel) rfl
theorem wu_459 : Cond.instanceMethod ⟨"PairedGates$Body", "enter", "(III)V"⟩ ∈ ac_U := ac_mem (i := 459) (by decide +kernel) rfl
theorem wu_460 : Cond.selects "PairedGates$Body" ⟨"PairedGates$Body", "enter", "(III)V"⟩ ⟨"PairedGates$Body", "enter", "(III)V"⟩ ∈ ac_U := ac_mem (i := 460) (by decide +kernel) rfl
set_option maxRecDepth 100000 in
theorem wu_461 : Cond.code ⟨"PairedGates$Body", "enter", "(III)V"⟩ prog_3_method_2_code 4 none ∈ ac_U := ac_mem (i := 461) rfl rfl
theorem wu_462 : Cond.methodLink "PairedGates$Lane" 96 ⟨"PairedGates$Lane", "handOutTokens", "()V"⟩ ∈ ac_U := ac_mem (i := 462) (by decide +kernel) rfl
theorem wu_464 : Cond.instanceMethod ⟨"PairedGates$Lane", "handOutTokens", "()V"⟩ ∈ ac_U := ac_mem (i := 464) (by decide +kernel) rfl
set_option maxRecDepth 100000 in
theorem wu_465 : Cond.code ⟨"PairedGates$Lane", "handOutTokens", "()V"⟩ prog_5_method_12_code 3 none ∈ ac_U := ac_mem (i := 465) rfl rfl
theorem wu_466 : Cond.methodLink "PairedGates$Lane" 171 ⟨"PairedGates$Body", "hasReachedPaddles", "()Z"⟩ ∈ ac_U := ac_mem (i := 466) (by decide +kernel) rfl
theorem wu_467 : Cond.instanceMethod ⟨"PairedGates$Body", "hasReachedPaddles", "()Z"⟩ ∈ ac_U := ac_mem (i := 467) (by decide +kernel) rfl
theorem wu_468 : Cond.selects "PairedGates$Body" ⟨"PairedGates$Body", "hasReachedPaddles", "()Z"⟩ ⟨"PairedGates$Body", "hasReachedPaddles", "()Z"⟩ ∈ ac_U := ac_mem (i := 468) (by decide +kernel) rfl
set_option maxRecDepth 100000 in
theorem wu_469 : Cond.code ⟨"PairedGates$Body", "hasReachedPaddles", "()Z"⟩ prog_3_method_6_code 1 (some (.boolean)) ∈ ac_U := ac_mem (i := 469) rfl rfl
theorem wu_470 : Cond.methodLink "PairedGates$Lane" 174 ⟨"PairedGates$TokenList", "removeOldest", "()I"⟩ ∈ ac_U := ac_mem (i := 470) (by decide +kernel) rfl
theorem wu_471 : Cond.methodLink "PairedGates$Lane" 99 ⟨"PairedGates$Lane", "someBodyHasToken", "()Z"⟩ ∈ ac_U := ac_mem (i := 471) (by decide +kernel) rfl
theorem wu_473 : Cond.instanceMethod ⟨"PairedGates$Lane", "someBodyHasToken", "()Z"⟩ ∈ ac_U := ac_mem (i := 473) (by decide +kernel) rfl
set_option maxRecDepth 100000 in
theorem wu_474 : Cond.code ⟨"PairedGates$Lane", "someBodyHasToken", "()Z"⟩ prog_5_method_13_code 2 (some (.boolean)) ∈ ac_U := ac_mem (i := 474) rfl rfl
theorem wu_475 : Cond.methodLink "PairedGates$Lane" 103 ⟨"PairedGates$Paddles", "move", "(ZZ)V"⟩ ∈ ac_U := ac_mem (i := 475) (by decide +kernel) rfl
theorem wu_476 : Cond.instanceMethod ⟨"PairedGates$Paddles", "move", "(ZZ)V"⟩ ∈ ac_U := ac_mem (i := 476) (by decide +kernel) rfl
theorem wu_477 : Cond.selects "PairedGates$Paddles" ⟨"PairedGates$Paddles", "move", "(ZZ)V"⟩ ⟨"PairedGates$Paddles", "move", "(ZZ)V"⟩ ∈ ac_U := ac_mem (i := 477) (by decide +kernel) rfl
set_option maxRecDepth 100000 in
theorem wu_478 : Cond.code ⟨"PairedGates$Paddles", "move", "(ZZ)V"⟩ prog_6_method_2_code 3 none ∈ ac_U := ac_mem (i := 478) rfl rfl
theorem wu_479 : Cond.methodLink "PairedGatesLaw" 76 ⟨"PairedGatesLaw", "token", "(LPairedGates;III[J)I"⟩ ∈ ac_U := ac_mem (i := 479) (by decide +kernel) rfl
theorem wu_480 : Cond.static ⟨"PairedGatesLaw", "token", "(LPairedGates;III[J)I"⟩ ∈ ac_U := ac_mem (i := 480) (by decide +kernel) rfl
set_option maxRecDepth 100000 in
theorem wu_481 : Cond.codeWith ⟨"PairedGatesLaw", "token", "(LPairedGates;III[J)I"⟩ method_5_code 6 (some (.int)) [(0, 12, 15, 13), (0, 12, 19, 19)] ∈ ac_U := ac_mem (i := 481) rfl rfl
theorem wu_482 : Cond.methodLink "PairedGatesLaw" 21 ⟨"PairedGates", "token", "(III)I"⟩ ∈ ac_U := ac_mem (i := 482) (by decide +kernel) rfl
theorem wu_483 : Cond.instanceMethod ⟨"PairedGates", "token", "(III)I"⟩ ∈ ac_U := ac_mem (i := 483) (by decide +kernel) rfl
theorem wu_484 : Cond.selects "PairedGates" ⟨"PairedGates", "token", "(III)I"⟩ ⟨"PairedGates", "token", "(III)I"⟩ ∈ ac_U := ac_mem (i := 484) (by decide +kernel) rfl
set_option maxRecDepth 100000 in
theorem wu_485 : Cond.code ⟨"PairedGates", "token", "(III)I"⟩ prog_1_method_4_code 6 (some (.int)) ∈ ac_U := ac_mem (i := 485) rfl rfl
theorem wu_486 : Cond.methodLink "PairedGates" 64 ⟨"PairedGates", "queueAt", "(LPairedGates$Lane;I)LPairedGates$TokenList;"⟩ ∈ ac_U := ac_mem (i := 486) (by decide +kernel) rfl
theorem wu_487 : Cond.static ⟨"PairedGates", "queueAt", "(LPairedGates$Lane;I)LPairedGates$TokenList;"⟩ ∈ ac_U := ac_mem (i := 487) (by decide +kernel) rfl
set_option maxRecDepth 100000 in
theorem wu_488 : Cond.code ⟨"PairedGates", "queueAt", "(LPairedGates$Lane;I)LPairedGates$TokenList;"⟩ prog_1_method_21_code 2 (some ((.object "PairedGates$TokenList"))) ∈ ac_U := ac_mem (i := 488) rfl rfl
theorem wu_491 : Cond.methodLink "PairedGates" 70 ⟨"PairedGates$Lane", "takesSide", "(I)Z"⟩ ∈ ac_U := ac_mem (i := 491) (by decide +kernel) rfl
theorem wu_492 : Cond.instanceMethod ⟨"PairedGates$Lane", "takesSide", "(I)Z"⟩ ∈ ac_U := ac_mem (i := 492) (by decide +kernel) rfl
theorem wu_493 : Cond.selects "PairedGates$Lane" ⟨"PairedGates$Lane", "takesSide", "(I)Z"⟩ ⟨"PairedGates$Lane", "takesSide", "(I)Z"⟩ ∈ ac_U := ac_mem (i := 493) (by decide +kernel) rfl
set_option maxRecDepth 100000 in
theorem wu_494 : Cond.code ⟨"PairedGates$Lane", "takesSide", "(I)Z"⟩ prog_5_method_3_code 2 (some (.boolean)) ∈ ac_U := ac_mem (i := 494) rfl rfl
theorem wu_495 : Cond.methodLink "PairedGates" 74 ⟨"PairedGates$TokenList", "hasRecent", "(II)Z"⟩ ∈ ac_U := ac_mem (i := 495) (by decide +kernel) rfl
theorem wu_496 : Cond.instanceMethod ⟨"PairedGates$TokenList", "hasRecent", "(II)Z"⟩ ∈ ac_U := ac_mem (i := 496) (by decide +kernel) rfl
theorem wu_497 : Cond.selects "PairedGates$TokenList" ⟨"PairedGates$TokenList", "hasRecent", "(II)Z"⟩ ⟨"PairedGates$TokenList", "hasRecent", "(II)Z"⟩ ∈ ac_U := ac_mem (i := 497) (by decide +kernel) rfl
set_option maxRecDepth 100000 in
theorem wu_498 : Cond.code ⟨"PairedGates$TokenList", "hasRecent", "(II)Z"⟩ prog_8_method_5_code 4 (some (.boolean)) ∈ ac_U := ac_mem (i := 498) rfl rfl
theorem wu_499 : Cond.methodLink "PairedGates" 78 ⟨"PairedGates$TokenList", "isFull", "()Z"⟩ ∈ ac_U := ac_mem (i := 499) (by decide +kernel) rfl
theorem wu_500 : Cond.instanceMethod ⟨"PairedGates$TokenList", "isFull", "()Z"⟩ ∈ ac_U := ac_mem (i := 500) (by decide +kernel) rfl
theorem wu_501 : Cond.selects "PairedGates$TokenList" ⟨"PairedGates$TokenList", "isFull", "()Z"⟩ ⟨"PairedGates$TokenList", "isFull", "()Z"⟩ ∈ ac_U := ac_mem (i := 501) (by decide +kernel) rfl
set_option maxRecDepth 100000 in
theorem wu_502 : Cond.code ⟨"PairedGates$TokenList", "isFull", "()Z"⟩ prog_8_method_2_code 1 (some (.boolean)) ∈ ac_U := ac_mem (i := 502) rfl rfl
theorem wu_503 : Cond.methodLink "PairedGates" 82 ⟨"PairedGates$TokenList", "add", "(II)V"⟩ ∈ ac_U := ac_mem (i := 503) (by decide +kernel) rfl
theorem wu_504 : Cond.instanceMethod ⟨"PairedGates$TokenList", "add", "(II)V"⟩ ∈ ac_U := ac_mem (i := 504) (by decide +kernel) rfl
theorem wu_505 : Cond.selects "PairedGates$TokenList" ⟨"PairedGates$TokenList", "add", "(II)V"⟩ ⟨"PairedGates$TokenList", "add", "(II)V"⟩ ∈ ac_U := ac_mem (i := 505) (by decide +kernel) rfl
set_option maxRecDepth 100000 in
theorem wu_506 : Cond.code ⟨"PairedGates$TokenList", "add", "(II)V"⟩ prog_8_method_3_code 3 none ∈ ac_U := ac_mem (i := 506) rfl rfl
theorem wu_507 : Cond.methodLink "PairedGatesLaw" 80 ⟨"PairedGatesLaw", "cancel", "(LPairedGates;II[J)I"⟩ ∈ ac_U := ac_mem (i := 507) (by decide +kernel) rfl
theorem wu_508 : Cond.static ⟨"PairedGatesLaw", "cancel", "(LPairedGates;II[J)I"⟩ ∈ ac_U := ac_mem (i := 508) (by decide +kernel) rfl
set_option maxRecDepth 100000 in
theorem wu_509 : Cond.codeWith ⟨"PairedGatesLaw", "cancel", "(LPairedGates;II[J)I"⟩ method_6_code 5 (some (.int)) [(0, 10, 13, 13)] ∈ ac_U := ac_mem (i := 509) rfl rfl
theorem wu_510 : Cond.methodLink "PairedGatesLaw" 25 ⟨"PairedGates", "cancel", "(II)I"⟩ ∈ ac_U := ac_mem (i := 510) (by decide +kernel) rfl
theorem wu_511 : Cond.instanceMethod ⟨"PairedGates", "cancel", "(II)I"⟩ ∈ ac_U := ac_mem (i := 511) (by decide +kernel) rfl
theorem wu_512 : Cond.selects "PairedGates" ⟨"PairedGates", "cancel", "(II)I"⟩ ⟨"PairedGates", "cancel", "(II)I"⟩ ∈ ac_U := ac_mem (i := 512) (by decide +kernel) rfl
set_option maxRecDepth 100000 in
theorem wu_513 : Cond.code ⟨"PairedGates", "cancel", "(II)I"⟩ prog_1_method_5_code 5 (some (.int)) ∈ ac_U := ac_mem (i := 513) rfl rfl
theorem wu_514 : Cond.methodLink "PairedGates" 89 ⟨"PairedGates$TokenList", "removeOldest", "()I"⟩ ∈ ac_U := ac_mem (i := 514) (by decide +kernel) rfl
theorem wu_515 : Cond.methodLink "PairedGates" 93 ⟨"PairedGates$Refunds", "add", "(I)V"⟩ ∈ ac_U := ac_mem (i := 515) (by decide +kernel) rfl
theorem wu_516 : Cond.methodLink "PairedGatesLaw" 84 ⟨"PairedGatesLaw", "mode", "(LPairedGates;II[J)I"⟩ ∈ ac_U := ac_mem (i := 516) (by decide +kernel) rfl
theorem wu_517 : Cond.static ⟨"PairedGatesLaw", "mode", "(LPairedGates;II[J)I"⟩ ∈ ac_U := ac_mem (i := 517) (by decide +kernel) rfl
set_option maxRecDepth 100000 in
theorem wu_518 : Cond.codeWith ⟨"PairedGatesLaw", "mode", "(LPairedGates;II[J)I"⟩ method_7_code 5 (some (.int)) [(0, 10, 13, 13), (0, 10, 17, 19), (0, 10, 21, 32)] ∈ ac_U := ac_mem (i := 518) rfl rfl
theorem wu_519 : Cond.classLink "PairedGatesLaw" 32 "java/lang/IllegalStateException" ∈ ac_U := ac_mem (i := 519) (by decide +kernel) rfl
theorem wu_520 : Cond.methodLink "PairedGatesLaw" 29 ⟨"PairedGates", "mode", "(II)I"⟩ ∈ ac_U := ac_mem (i := 520) (by decide +kernel) rfl
theorem wu_521 : Cond.instanceMethod ⟨"PairedGates", "mode", "(II)I"⟩ ∈ ac_U := ac_mem (i := 521) (by decide +kernel) rfl
theorem wu_522 : Cond.selects "PairedGates" ⟨"PairedGates", "mode", "(II)I"⟩ ⟨"PairedGates", "mode", "(II)I"⟩ ∈ ac_U := ac_mem (i := 522) (by decide +kernel) rfl
set_option maxRecDepth 100000 in
theorem wu_523 : Cond.code ⟨"PairedGates", "mode", "(II)I"⟩ prog_1_method_6_code 4 (some (.int)) ∈ ac_U := ac_mem (i := 523) rfl rfl
theorem wu_525 : Cond.classLink "PairedGates" 98 "java/lang/IllegalStateException" ∈ ac_U := ac_mem (i := 525) (by decide +kernel) rfl
theorem wu_541 : Cond.methodLink "PairedGates" 103 ⟨"PairedGates$Lane", "changeMode", "(ILPairedGates$Refunds;)I"⟩ ∈ ac_U := ac_mem (i := 541) (by decide +kernel) rfl
theorem wu_542 : Cond.instanceMethod ⟨"PairedGates$Lane", "changeMode", "(ILPairedGates$Refunds;)I"⟩ ∈ ac_U := ac_mem (i := 542) (by decide +kernel) rfl
theorem wu_543 : Cond.selects "PairedGates$Lane" ⟨"PairedGates$Lane", "changeMode", "(ILPairedGates$Refunds;)I"⟩ ⟨"PairedGates$Lane", "changeMode", "(ILPairedGates$Refunds;)I"⟩ ∈ ac_U := ac_mem (i := 543) (by decide +kernel) rfl
set_option maxRecDepth 100000 in
theorem wu_544 : Cond.code ⟨"PairedGates$Lane", "changeMode", "(ILPairedGates$Refunds;)I"⟩ prog_5_method_4_code 5 (some (.int)) ∈ ac_U := ac_mem (i := 544) rfl rfl
theorem wu_545 : Cond.methodLink "PairedGates$Lane" 69 ⟨"PairedGates$Lane", "takesSide", "(I)Z"⟩ ∈ ac_U := ac_mem (i := 545) (by decide +kernel) rfl
theorem wu_546 : Cond.methodLink "PairedGates$Lane" 73 ⟨"PairedGates$TokenList", "refundAll", "(LPairedGates$Refunds;)I"⟩ ∈ ac_U := ac_mem (i := 546) (by decide +kernel) rfl
theorem wu_547 : Cond.instanceMethod ⟨"PairedGates$TokenList", "refundAll", "(LPairedGates$Refunds;)I"⟩ ∈ ac_U := ac_mem (i := 547) (by decide +kernel) rfl
theorem wu_548 : Cond.selects "PairedGates$TokenList" ⟨"PairedGates$TokenList", "refundAll", "(LPairedGates$Refunds;)I"⟩ ⟨"PairedGates$TokenList", "refundAll", "(LPairedGates$Refunds;)I"⟩ ∈ ac_U := ac_mem (i := 548) (by decide +kernel) rfl
set_option maxRecDepth 100000 in
theorem wu_549 : Cond.code ⟨"PairedGates$TokenList", "refundAll", "(LPairedGates$Refunds;)I"⟩ prog_8_method_8_code 4 (some (.int)) ∈ ac_U := ac_mem (i := 549) rfl rfl
theorem wu_550 : Cond.methodLink "PairedGatesLaw" 96 ⟨"PairedGatesLaw", "bodies", "(LPairedGates;I[J)I"⟩ ∈ ac_U := ac_mem (i := 550) (by decide +kernel) rfl
theorem wu_551 : Cond.static ⟨"PairedGatesLaw", "bodies", "(LPairedGates;I[J)I"⟩ ∈ ac_U := ac_mem (i := 551) (by decide +kernel) rfl
set_option maxRecDepth 100000 in
theorem wu_552 : Cond.codeWith ⟨"PairedGatesLaw", "bodies", "(LPairedGates;I[J)I"⟩ method_8_code 4 (some (.int)) [(0, 9, 12, 13)] ∈ ac_U := ac_mem (i := 552) rfl rfl
theorem wu_553 : Cond.methodLink "PairedGatesLaw" 34 ⟨"PairedGates", "bodies", "(I)I"⟩ ∈ ac_U := ac_mem (i := 553) (by decide +kernel) rfl
theorem wu_554 : Cond.instanceMethod ⟨"PairedGates", "bodies", "(I)I"⟩ ∈ ac_U := ac_mem (i := 554) (by decide +kernel) rfl
theorem wu_555 : Cond.selects "PairedGates" ⟨"PairedGates", "bodies", "(I)I"⟩ ⟨"PairedGates", "bodies", "(I)I"⟩ ∈ ac_U := ac_mem (i := 555) (by decide +kernel) rfl
set_option maxRecDepth 100000 in
theorem wu_556 : Cond.code ⟨"PairedGates", "bodies", "(I)I"⟩ prog_1_method_9_code 2 (some (.int)) ∈ ac_U := ac_mem (i := 556) rfl rfl
theorem wu_557 : Cond.methodLink "PairedGatesLaw" 99 ⟨"PairedGatesLaw", "body", "(LPairedGates;III[J)I"⟩ ∈ ac_U := ac_mem (i := 557) (by decide +kernel) rfl
theorem wu_558 : Cond.static ⟨"PairedGatesLaw", "body", "(LPairedGates;III[J)I"⟩ ∈ ac_U := ac_mem (i := 558) (by decide +kernel) rfl
set_option maxRecDepth 100000 in
theorem wu_559 : Cond.codeWith ⟨"PairedGatesLaw", "body", "(LPairedGates;III[J)I"⟩ method_9_code 6 (some (.int)) [(0, 12, 15, 13), (0, 12, 19, 19)] ∈ ac_U := ac_mem (i := 559) rfl rfl
theorem wu_560 : Cond.methodLink "PairedGatesLaw" 37 ⟨"PairedGates", "body", "(III)I"⟩ ∈ ac_U := ac_mem (i := 560) (by decide +kernel) rfl
theorem wu_561 : Cond.instanceMethod ⟨"PairedGates", "body", "(III)I"⟩ ∈ ac_U := ac_mem (i := 561) (by decide +kernel) rfl
theorem wu_562 : Cond.selects "PairedGates" ⟨"PairedGates", "body", "(III)I"⟩ ⟨"PairedGates", "body", "(III)I"⟩ ∈ ac_U := ac_mem (i := 562) (by decide +kernel) rfl
set_option maxRecDepth 100000 in
theorem wu_563 : Cond.code ⟨"PairedGates", "body", "(III)I"⟩ prog_1_method_10_code 5 (some (.int)) ∈ ac_U := ac_mem (i := 563) rfl rfl
theorem wu_564 : Cond.methodLink "PairedGates" 107 ⟨"PairedGates", "bodyAt", "(LPairedGates$Lane;I)LPairedGates$Body;"⟩ ∈ ac_U := ac_mem (i := 564) (by decide +kernel) rfl
theorem wu_565 : Cond.static ⟨"PairedGates", "bodyAt", "(LPairedGates$Lane;I)LPairedGates$Body;"⟩ ∈ ac_U := ac_mem (i := 565) (by decide +kernel) rfl
set_option maxRecDepth 100000 in
theorem wu_566 : Cond.code ⟨"PairedGates", "bodyAt", "(LPairedGates$Lane;I)LPairedGates$Body;"⟩ prog_1_method_22_code 2 (some ((.object "PairedGates$Body"))) ∈ ac_U := ac_mem (i := 566) rfl rfl
theorem wu_569 : Cond.methodLink "PairedGatesLaw" 102 ⟨"PairedGatesLaw", "waiting", "(LPairedGates;II[J)I"⟩ ∈ ac_U := ac_mem (i := 569) (by decide +kernel) rfl
theorem wu_570 : Cond.static ⟨"PairedGatesLaw", "waiting", "(LPairedGates;II[J)I"⟩ ∈ ac_U := ac_mem (i := 570) (by decide +kernel) rfl
set_option maxRecDepth 100000 in
theorem wu_571 : Cond.codeWith ⟨"PairedGatesLaw", "waiting", "(LPairedGates;II[J)I"⟩ method_10_code 5 (some (.int)) [(0, 10, 13, 13)] ∈ ac_U := ac_mem (i := 571) rfl rfl
theorem wu_572 : Cond.methodLink "PairedGatesLaw" 40 ⟨"PairedGates", "waiting", "(II)I"⟩ ∈ ac_U := ac_mem (i := 572) (by decide +kernel) rfl
theorem wu_573 : Cond.instanceMethod ⟨"PairedGates", "waiting", "(II)I"⟩ ∈ ac_U := ac_mem (i := 573) (by decide +kernel) rfl
theorem wu_574 : Cond.selects "PairedGates" ⟨"PairedGates", "waiting", "(II)I"⟩ ⟨"PairedGates", "waiting", "(II)I"⟩ ∈ ac_U := ac_mem (i := 574) (by decide +kernel) rfl
set_option maxRecDepth 100000 in
theorem wu_575 : Cond.code ⟨"PairedGates", "waiting", "(II)I"⟩ prog_1_method_11_code 3 (some (.int)) ∈ ac_U := ac_mem (i := 575) rfl rfl
theorem wu_576 : Cond.methodLink "PairedGatesLaw" 105 ⟨"PairedGatesLaw", "waits", "(LPairedGates;III[J)I"⟩ ∈ ac_U := ac_mem (i := 576) (by decide +kernel) rfl
theorem wu_577 : Cond.static ⟨"PairedGatesLaw", "waits", "(LPairedGates;III[J)I"⟩ ∈ ac_U := ac_mem (i := 577) (by decide +kernel) rfl
set_option maxRecDepth 100000 in
theorem wu_578 : Cond.codeWith ⟨"PairedGatesLaw", "waits", "(LPairedGates;III[J)I"⟩ method_11_code 6 (some (.int)) [(0, 12, 15, 13)] ∈ ac_U := ac_mem (i := 578) rfl rfl
theorem wu_579 : Cond.methodLink "PairedGatesLaw" 43 ⟨"PairedGates", "waits", "(III)I"⟩ ∈ ac_U := ac_mem (i := 579) (by decide +kernel) rfl
theorem wu_580 : Cond.instanceMethod ⟨"PairedGates", "waits", "(III)I"⟩ ∈ ac_U := ac_mem (i := 580) (by decide +kernel) rfl
theorem wu_581 : Cond.selects "PairedGates" ⟨"PairedGates", "waits", "(III)I"⟩ ⟨"PairedGates", "waits", "(III)I"⟩ ∈ ac_U := ac_mem (i := 581) (by decide +kernel) rfl
set_option maxRecDepth 100000 in
theorem wu_582 : Cond.code ⟨"PairedGates", "waits", "(III)I"⟩ prog_1_method_12_code 4 (some (.int)) ∈ ac_U := ac_mem (i := 582) rfl rfl
theorem wu_583 : Cond.methodLink "PairedGates" 130 ⟨"PairedGates$TokenList", "accountAt", "(I)I"⟩ ∈ ac_U := ac_mem (i := 583) (by decide +kernel) rfl
theorem wu_584 : Cond.instanceMethod ⟨"PairedGates$TokenList", "accountAt", "(I)I"⟩ ∈ ac_U := ac_mem (i := 584) (by decide +kernel) rfl
theorem wu_585 : Cond.selects "PairedGates$TokenList" ⟨"PairedGates$TokenList", "accountAt", "(I)I"⟩ ⟨"PairedGates$TokenList", "accountAt", "(I)I"⟩ ∈ ac_U := ac_mem (i := 585) (by decide +kernel) rfl
set_option maxRecDepth 100000 in
theorem wu_586 : Cond.code ⟨"PairedGates$TokenList", "accountAt", "(I)I"⟩ prog_8_method_4_code 2 (some (.int)) ∈ ac_U := ac_mem (i := 586) rfl rfl
theorem wu_587 : Cond.methodLink "PairedGatesLaw" 108 ⟨"PairedGatesLaw", "count", "(LPairedGates;II[J)I"⟩ ∈ ac_U := ac_mem (i := 587) (by decide +kernel) rfl
theorem wu_588 : Cond.static ⟨"PairedGatesLaw", "count", "(LPairedGates;II[J)I"⟩ ∈ ac_U := ac_mem (i := 588) (by decide +kernel) rfl
set_option maxRecDepth 100000 in
theorem wu_589 : Cond.codeWith ⟨"PairedGatesLaw", "count", "(LPairedGates;II[J)I"⟩ method_12_code 5 (some (.int)) [(0, 10, 13, 13)] ∈ ac_U := ac_mem (i := 589) rfl rfl
theorem wu_590 : Cond.methodLink "PairedGatesLaw" 46 ⟨"PairedGates", "count", "(II)I"⟩ ∈ ac_U := ac_mem (i := 590) (by decide +kernel) rfl
theorem wu_591 : Cond.instanceMethod ⟨"PairedGates", "count", "(II)I"⟩ ∈ ac_U := ac_mem (i := 591) (by decide +kernel) rfl
theorem wu_592 : Cond.selects "PairedGates" ⟨"PairedGates", "count", "(II)I"⟩ ⟨"PairedGates", "count", "(II)I"⟩ ∈ ac_U := ac_mem (i := 592) (by decide +kernel) rfl
set_option maxRecDepth 100000 in
theorem wu_593 : Cond.code ⟨"PairedGates", "count", "(II)I"⟩ prog_1_method_13_code 4 (some (.int)) ∈ ac_U := ac_mem (i := 593) rfl rfl
theorem wu_594 : Cond.methodLink "PairedGatesLaw" 111 ⟨"PairedGatesLaw", "angle", "(LPairedGates;I[J)I"⟩ ∈ ac_U := ac_mem (i := 594) (by decide +kernel) rfl
theorem wu_595 : Cond.static ⟨"PairedGatesLaw", "angle", "(LPairedGates;I[J)I"⟩ ∈ ac_U := ac_mem (i := 595) (by decide +kernel) rfl
set_option maxRecDepth 100000 in
theorem wu_596 : Cond.codeWith ⟨"PairedGatesLaw", "angle", "(LPairedGates;I[J)I"⟩ method_13_code 4 (some (.int)) [(0, 9, 12, 13)] ∈ ac_U := ac_mem (i := 596) rfl rfl
theorem wu_597 : Cond.methodLink "PairedGatesLaw" 49 ⟨"PairedGates", "angle", "(I)I"⟩ ∈ ac_U := ac_mem (i := 597) (by decide +kernel) rfl
theorem wu_598 : Cond.instanceMethod ⟨"PairedGates", "angle", "(I)I"⟩ ∈ ac_U := ac_mem (i := 598) (by decide +kernel) rfl
theorem wu_599 : Cond.selects "PairedGates" ⟨"PairedGates", "angle", "(I)I"⟩ ⟨"PairedGates", "angle", "(I)I"⟩ ∈ ac_U := ac_mem (i := 599) (by decide +kernel) rfl
set_option maxRecDepth 100000 in
theorem wu_600 : Cond.code ⟨"PairedGates", "angle", "(I)I"⟩ prog_1_method_14_code 2 (some (.int)) ∈ ac_U := ac_mem (i := 600) rfl rfl
theorem wu_601 : Cond.methodLink "PairedGatesLaw" 114 ⟨"PairedGatesLaw", "order", "(LPairedGates;I[J)I"⟩ ∈ ac_U := ac_mem (i := 601) (by decide +kernel) rfl
theorem wu_602 : Cond.static ⟨"PairedGatesLaw", "order", "(LPairedGates;I[J)I"⟩ ∈ ac_U := ac_mem (i := 602) (by decide +kernel) rfl
set_option maxRecDepth 100000 in
theorem wu_603 : Cond.codeWith ⟨"PairedGatesLaw", "order", "(LPairedGates;I[J)I"⟩ method_14_code 4 (some (.int)) [(0, 9, 12, 13)] ∈ ac_U := ac_mem (i := 603) rfl rfl
theorem wu_604 : Cond.methodLink "PairedGatesLaw" 52 ⟨"PairedGates", "order", "(I)I"⟩ ∈ ac_U := ac_mem (i := 604) (by decide +kernel) rfl
theorem wu_605 : Cond.instanceMethod ⟨"PairedGates", "order", "(I)I"⟩ ∈ ac_U := ac_mem (i := 605) (by decide +kernel) rfl
theorem wu_606 : Cond.selects "PairedGates" ⟨"PairedGates", "order", "(I)I"⟩ ⟨"PairedGates", "order", "(I)I"⟩ ∈ ac_U := ac_mem (i := 606) (by decide +kernel) rfl
set_option maxRecDepth 100000 in
theorem wu_607 : Cond.code ⟨"PairedGates", "order", "(I)I"⟩ prog_1_method_15_code 2 (some (.int)) ∈ ac_U := ac_mem (i := 607) rfl rfl
theorem wu_608 : Cond.methodLink "PairedGatesLaw" 117 ⟨"PairedGatesLaw", "seen", "(LPairedGates;I[J)I"⟩ ∈ ac_U := ac_mem (i := 608) (by decide +kernel) rfl
theorem wu_609 : Cond.static ⟨"PairedGatesLaw", "seen", "(LPairedGates;I[J)I"⟩ ∈ ac_U := ac_mem (i := 609) (by decide +kernel) rfl
set_option maxRecDepth 100000 in
theorem wu_610 : Cond.codeWith ⟨"PairedGatesLaw", "seen", "(LPairedGates;I[J)I"⟩ method_15_code 4 (some (.int)) [(0, 9, 12, 13)] ∈ ac_U := ac_mem (i := 610) rfl rfl
theorem wu_611 : Cond.methodLink "PairedGatesLaw" 55 ⟨"PairedGates", "seen", "(I)I"⟩ ∈ ac_U := ac_mem (i := 611) (by decide +kernel) rfl
theorem wu_612 : Cond.instanceMethod ⟨"PairedGates", "seen", "(I)I"⟩ ∈ ac_U := ac_mem (i := 612) (by decide +kernel) rfl
theorem wu_613 : Cond.selects "PairedGates" ⟨"PairedGates", "seen", "(I)I"⟩ ⟨"PairedGates", "seen", "(I)I"⟩ ∈ ac_U := ac_mem (i := 613) (by decide +kernel) rfl
set_option maxRecDepth 100000 in
theorem wu_614 : Cond.code ⟨"PairedGates", "seen", "(I)I"⟩ prog_1_method_16_code 2 (some (.int)) ∈ ac_U := ac_mem (i := 614) rfl rfl
theorem wu_615 : Cond.classLink "PairedGatesLaw" 59 "PairedGatesModel" ∈ ac_U := ac_mem (i := 615) (by decide +kernel) rfl
theorem wu_616 : Cond.instantiable "PairedGatesModel" 31 ∈ ac_U := ac_mem (i := 616) (by decide +kernel) rfl
theorem wu_617 : Cond.methodLink "PairedGatesLaw" 61 ⟨"PairedGatesModel", "<init>", "()V"⟩ ∈ ac_U := ac_mem (i := 617) (by decide +kernel) rfl
theorem wu_618 : Cond.instanceMethod ⟨"PairedGatesModel", "<init>", "()V"⟩ ∈ ac_U := ac_mem (i := 618) (by decide +kernel) rfl
set_option maxRecDepth 100000 in
theorem wu_619 : Cond.code ⟨"PairedGatesModel", "<init>", "()V"⟩ prog_10_method_1_code 1 none ∈ ac_U := ac_mem (i := 619) rfl rfl
theorem wu_620 : Cond.methodLink "PairedGatesModel" 1 ⟨"java/lang/Object", "<init>", "()V"⟩ ∈ ac_U := ac_mem (i := 620) (by decide +kernel) rfl
theorem wu_621 : Cond.fieldLink "PairedGatesModel" 85 "PairedGatesModel" "fault" "I" ∈ ac_U := ac_mem (i := 621) (by decide +kernel) rfl
theorem wu_622 : Cond.fieldLink "PairedGatesModel" 121 "PairedGatesModel" "time" "I" ∈ ac_U := ac_mem (i := 622) (by decide +kernel) rfl
theorem wu_623 : Cond.fieldLink "PairedGatesModel" 117 "PairedGatesModel" "alarm" "Z" ∈ ac_U := ac_mem (i := 623) (by decide +kernel) rfl
theorem wu_624 : Cond.fieldLink "PairedGatesModel" 7 "PairedGatesModel" "told" "[I" ∈ ac_U := ac_mem (i := 624) (by decide +kernel) rfl
theorem wu_625 : Cond.fieldLink "PairedGatesModel" 13 "PairedGatesModel" "before" "[I" ∈ ac_U := ac_mem (i := 625) (by decide +kernel) rfl
theorem wu_626 : Cond.fieldLink "PairedGatesModel" 16 "PairedGatesModel" "earlier" "[I" ∈ ac_U := ac_mem (i := 626) (by decide +kernel) rfl
theorem wu_627 : Cond.fieldLink "PairedGatesModel" 19 "PairedGatesModel" "seen" "[I" ∈ ac_U := ac_mem (i := 627) (by decide +kernel) rfl
theorem wu_628 : Cond.fieldLink "PairedGatesModel" 22 "PairedGatesModel" "modes" "[I" ∈ ac_U := ac_mem (i := 628) (by decide +kernel) rfl
theorem wu_629 : Cond.fieldLink "PairedGatesModel" 25 "PairedGatesModel" "angle" "[I" ∈ ac_U := ac_mem (i := 629) (by decide +kernel) rfl
theorem wu_630 : Cond.fieldLink "PairedGatesModel" 28 "PairedGatesModel" "order" "[I" ∈ ac_U := ac_mem (i := 630) (by decide +kernel) rfl
theorem wu_631 : Cond.fieldLink "PairedGatesModel" 31 "PairedGatesModel" "counts" "[I" ∈ ac_U := ac_mem (i := 631) (by decide +kernel) rfl
theorem wu_632 : Cond.fieldLink "PairedGatesModel" 34 "PairedGatesModel" "bodies" "[I" ∈ ac_U := ac_mem (i := 632) (by decide +kernel) rfl
theorem wu_633 : Cond.fieldLink "PairedGatesModel" 37 "PairedGatesModel" "first" "[I" ∈ ac_U := ac_mem (i := 633) (by decide +kernel) rfl
theorem wu_634 : Cond.fieldLink "PairedGatesModel" 40 "PairedGatesModel" "last" "[I" ∈ ac_U := ac_mem (i := 634) (by decide +kernel) rfl
theorem wu_635 : Cond.fieldLink "PairedGatesModel" 43 "PairedGatesModel" "side" "[I" ∈ ac_U := ac_mem (i := 635) (by decide +kernel) rfl
theorem wu_636 : Cond.fieldLink "PairedGatesModel" 46 "PairedGatesModel" "owns" "[I" ∈ ac_U := ac_mem (i := 636) (by decide +kernel) rfl
theorem wu_637 : Cond.fieldLink "PairedGatesModel" 49 "PairedGatesModel" "length" "[I" ∈ ac_U := ac_mem (i := 637) (by decide +kernel) rfl
theorem wu_638 : Cond.fieldLink "PairedGatesModel" 52 "PairedGatesModel" "blobOf" "[I" ∈ ac_U := ac_mem (i := 638) (by decide +kernel) rfl
theorem wu_639 : Cond.fieldLink "PairedGatesModel" 55 "PairedGatesModel" "oldFirst" "[I" ∈ ac_U := ac_mem (i := 639) (by decide +kernel) rfl
theorem wu_640 : Cond.fieldLink "PairedGatesModel" 58 "PairedGatesModel" "oldLast" "[I" ∈ ac_U := ac_mem (i := 640) (by decide +kernel) rfl
theorem wu_641 : Cond.fieldLink "PairedGatesModel" 92 "PairedGatesModel" "blobs" "I" ∈ ac_U := ac_mem (i := 641) (by decide +kernel) rfl
theorem wu_642 : Cond.fieldLink "PairedGatesModel" 61 "PairedGatesModel" "blobFirst" "[I" ∈ ac_U := ac_mem (i := 642) (by decide +kernel) rfl
theorem wu_643 : Cond.fieldLink "PairedGatesModel" 64 "PairedGatesModel" "blobLast" "[I" ∈ ac_U := ac_mem (i := 643) (by decide +kernel) rfl
theorem wu_644 : Cond.fieldLink "PairedGatesModel" 67 "PairedGatesModel" "waiting" "[I" ∈ ac_U := ac_mem (i := 644) (by decide +kernel) rfl
theorem wu_645 : Cond.fieldLink "PairedGatesModel" 70 "PairedGatesModel" "account" "[I" ∈ ac_U := ac_mem (i := 645) (by decide +kernel) rfl
theorem wu_646 : Cond.fieldLink "PairedGatesModel" 73 "PairedGatesModel" "since" "[I" ∈ ac_U := ac_mem (i := 646) (by decide +kernel) rfl
theorem wu_647 : Cond.fieldLink "PairedGatesModel" 149 "PairedGatesModel" "accepted" "I" ∈ ac_U := ac_mem (i := 647) (by decide +kernel) rfl
theorem wu_648 : Cond.fieldLink "PairedGatesModel" 76 "PairedGatesModel" "takenOf" "[I" ∈ ac_U := ac_mem (i := 648) (by decide +kernel) rfl
theorem wu_649 : Cond.fieldLink "PairedGatesModel" 79 "PairedGatesModel" "takenAt" "[I" ∈ ac_U := ac_mem (i := 649) (by decide +kernel) rfl
theorem wu_650 : Cond.fieldLink "PairedGatesModel" 89 "PairedGatesModel" "refunds" "I" ∈ ac_U := ac_mem (i := 650) (by decide +kernel) rfl
theorem wu_651 : Cond.fieldLink "PairedGatesModel" 82 "PairedGatesModel" "refund" "[I" ∈ ac_U := ac_mem (i := 651) (by decide +kernel) rfl
theorem wu_652 : Cond.lays "PairedGatesModel" "PairedGatesModel" "fault" "I" ∈ ac_U := ac_mem (i := 652) (by decide +kernel) rfl
theorem wu_654 : Cond.lays "PairedGatesModel" "PairedGatesModel" "time" "I" ∈ ac_U := ac_mem (i := 654) (by decide +kernel) rfl
theorem wu_656 : Cond.lays "PairedGatesModel" "PairedGatesModel" "alarm" "Z" ∈ ac_U := ac_mem (i := 656) (by decide +kernel) rfl
theorem wu_658 : Cond.laysFinal "PairedGatesModel" "PairedGatesModel" "told" "[I" ∈ ac_U := ac_mem (i := 658) (by decide +kernel) rfl
theorem wu_660 : Cond.laysFinal "PairedGatesModel" "PairedGatesModel" "before" "[I" ∈ ac_U := ac_mem (i := 660) (by decide +kernel) rfl
theorem wu_662 : Cond.laysFinal "PairedGatesModel" "PairedGatesModel" "earlier" "[I" ∈ ac_U := ac_mem (i := 662) (by decide +kernel) rfl
theorem wu_664 : Cond.laysFinal "PairedGatesModel" "PairedGatesModel" "seen" "[I" ∈ ac_U := ac_mem (i := 664) (by decide +kernel) rfl
theorem wu_666 : Cond.laysFinal "PairedGatesModel" "PairedGatesModel" "modes" "[I" ∈ ac_U := ac_mem (i := 666) (by decide +kernel) rfl
theorem wu_668 : Cond.laysFinal "PairedGatesModel" "PairedGatesModel" "angle" "[I" ∈ ac_U := ac_mem (i := 668) (by decide +kernel) rfl
theorem wu_670 : Cond.laysFinal "PairedGatesModel" "PairedGatesModel" "order" "[I" ∈ ac_U := ac_mem (i := 670) (by decide +kernel) rfl
theorem wu_672 : Cond.laysFinal "PairedGatesModel" "PairedGatesModel" "counts" "[I" ∈ ac_U := ac_mem (i := 672) (by decide +kernel) rfl
theorem wu_674 : Cond.laysFinal "PairedGatesModel" "PairedGatesModel" "bodies" "[I" ∈ ac_U := ac_mem (i := 674) (by decide +kernel) rfl
theorem wu_676 : Cond.laysFinal "PairedGatesModel" "PairedGatesModel" "first" "[I" ∈ ac_U := ac_mem (i := 676) (by decide +kernel) rfl
theorem wu_678 : Cond.laysFinal "PairedGatesModel" "PairedGatesModel" "last" "[I" ∈ ac_U := ac_mem (i := 678) (by decide +kernel) rfl
theorem wu_680 : Cond.laysFinal "PairedGatesModel" "PairedGatesModel" "side" "[I" ∈ ac_U := ac_mem (i := 680) (by decide +kernel) rfl
theorem wu_682 : Cond.laysFinal "PairedGatesModel" "PairedGatesModel" "owns" "[I" ∈ ac_U := ac_mem (i := 682) (by decide +kernel) rfl
theorem wu_684 : Cond.laysFinal "PairedGatesModel" "PairedGatesModel" "length" "[I" ∈ ac_U := ac_mem (i := 684) (by decide +kernel) rfl
theorem wu_686 : Cond.laysFinal "PairedGatesModel" "PairedGatesModel" "blobOf" "[I" ∈ ac_U := ac_mem (i := 686) (by decide +kernel) rfl
theorem wu_688 : Cond.laysFinal "PairedGatesModel" "PairedGatesModel" "oldFirst" "[I" ∈ ac_U := ac_mem (i := 688) (by decide +kernel) rfl
theorem wu_690 : Cond.laysFinal "PairedGatesModel" "PairedGatesModel" "oldLast" "[I" ∈ ac_U := ac_mem (i := 690) (by decide +kernel) rfl
theorem wu_692 : Cond.lays "PairedGatesModel" "PairedGatesModel" "blobs" "I" ∈ ac_U := ac_mem (i := 692) (by decide +kernel) rfl
theorem wu_694 : Cond.laysFinal "PairedGatesModel" "PairedGatesModel" "blobFirst" "[I" ∈ ac_U := ac_mem (i := 694) (by decide +kernel) rfl
theorem wu_696 : Cond.laysFinal "PairedGatesModel" "PairedGatesModel" "blobLast" "[I" ∈ ac_U := ac_mem (i := 696) (by decide +kernel) rfl
theorem wu_698 : Cond.laysFinal "PairedGatesModel" "PairedGatesModel" "waiting" "[I" ∈ ac_U := ac_mem (i := 698) (by decide +kernel) rfl
theorem wu_700 : Cond.laysFinal "PairedGatesModel" "PairedGatesModel" "account" "[I" ∈ ac_U := ac_mem (i := 700) (by decide +kernel) rfl
theorem wu_702 : Cond.laysFinal "PairedGatesModel" "PairedGatesModel" "since" "[I" ∈ ac_U := ac_mem (i := 702) (by decide +kernel) rfl
theorem wu_704 : Cond.lays "PairedGatesModel" "PairedGatesModel" "accepted" "I" ∈ ac_U := ac_mem (i := 704) (by decide +kernel) rfl
theorem wu_706 : Cond.laysFinal "PairedGatesModel" "PairedGatesModel" "takenOf" "[I" ∈ ac_U := ac_mem (i := 706) (by decide +kernel) rfl
theorem wu_708 : Cond.laysFinal "PairedGatesModel" "PairedGatesModel" "takenAt" "[I" ∈ ac_U := ac_mem (i := 708) (by decide +kernel) rfl
theorem wu_710 : Cond.lays "PairedGatesModel" "PairedGatesModel" "refunds" "I" ∈ ac_U := ac_mem (i := 710) (by decide +kernel) rfl
theorem wu_712 : Cond.laysFinal "PairedGatesModel" "PairedGatesModel" "refund" "[I" ∈ ac_U := ac_mem (i := 712) (by decide +kernel) rfl
theorem wu_715 : Cond.methodLink "PairedGatesLaw" 68 ⟨"PairedGatesModel", "thrown", "()I"⟩ ∈ ac_U := ac_mem (i := 715) (by decide +kernel) rfl
theorem wu_716 : Cond.instanceMethod ⟨"PairedGatesModel", "thrown", "()I"⟩ ∈ ac_U := ac_mem (i := 716) (by decide +kernel) rfl
theorem wu_717 : Cond.selects "PairedGatesModel" ⟨"PairedGatesModel", "thrown", "()I"⟩ ⟨"PairedGatesModel", "thrown", "()I"⟩ ∈ ac_U := ac_mem (i := 717) (by decide +kernel) rfl
set_option maxRecDepth 100000 in
theorem wu_718 : Cond.code ⟨"PairedGatesModel", "thrown", "()I"⟩ prog_10_method_2_code 1 (some (.int)) ∈ ac_U := ac_mem (i := 718) rfl rfl
theorem wu_719 : Cond.methodLink "PairedGatesLaw" 67 ⟨"PairedGatesModel", "beams", "(II)V"⟩ ∈ ac_U := ac_mem (i := 719) (by decide +kernel) rfl
theorem wu_720 : Cond.instanceMethod ⟨"PairedGatesModel", "beams", "(II)V"⟩ ∈ ac_U := ac_mem (i := 720) (by decide +kernel) rfl
theorem wu_721 : Cond.selects "PairedGatesModel" ⟨"PairedGatesModel", "beams", "(II)V"⟩ ⟨"PairedGatesModel", "beams", "(II)V"⟩ ∈ ac_U := ac_mem (i := 721) (by decide +kernel) rfl
set_option maxRecDepth 100000 in
theorem wu_722 : Cond.code ⟨"PairedGatesModel", "beams", "(II)V"⟩ prog_10_method_18_code 3 none ∈ ac_U := ac_mem (i := 722) rfl rfl
theorem wu_723 : Cond.methodLink "PairedGatesModel" 139 ⟨"PairedGatesModel", "isTwo", "(I)Z"⟩ ∈ ac_U := ac_mem (i := 723) (by decide +kernel) rfl
theorem wu_724 : Cond.static ⟨"PairedGatesModel", "isTwo", "(I)Z"⟩ ∈ ac_U := ac_mem (i := 724) (by decide +kernel) rfl
set_option maxRecDepth 100000 in
theorem wu_725 : Cond.code ⟨"PairedGatesModel", "isTwo", "(I)Z"⟩ prog_10_method_4_code 1 (some (.boolean)) ∈ ac_U := ac_mem (i := 725) rfl rfl
theorem wu_726 : Cond.methodLink "PairedGatesModel" 143 ⟨"PairedGatesModel", "refused", "(I)Z"⟩ ∈ ac_U := ac_mem (i := 726) (by decide +kernel) rfl
theorem wu_728 : Cond.instanceMethod ⟨"PairedGatesModel", "refused", "(I)Z"⟩ ∈ ac_U := ac_mem (i := 728) (by decide +kernel) rfl
set_option maxRecDepth 100000 in
theorem wu_729 : Cond.code ⟨"PairedGatesModel", "refused", "(I)Z"⟩ prog_10_method_3_code 2 (some (.boolean)) ∈ ac_U := ac_mem (i := 729) rfl rfl
theorem wu_730 : Cond.methodLink "PairedGatesLaw" 75 ⟨"PairedGatesModel", "ticks", "(I)I"⟩ ∈ ac_U := ac_mem (i := 730) (by decide +kernel) rfl
theorem wu_731 : Cond.instanceMethod ⟨"PairedGatesModel", "ticks", "(I)I"⟩ ∈ ac_U := ac_mem (i := 731) (by decide +kernel) rfl
theorem wu_732 : Cond.selects "PairedGatesModel" ⟨"PairedGatesModel", "ticks", "(I)I"⟩ ⟨"PairedGatesModel", "ticks", "(I)I"⟩ ∈ ac_U := ac_mem (i := 732) (by decide +kernel) rfl
set_option maxRecDepth 100000 in
theorem wu_733 : Cond.code ⟨"PairedGatesModel", "ticks", "(I)I"⟩ prog_10_method_19_code 4 (some (.int)) ∈ ac_U := ac_mem (i := 733) rfl rfl
theorem wu_734 : Cond.methodLink "PairedGatesModel" 146 ⟨"PairedGatesModel", "tick", "(I)I"⟩ ∈ ac_U := ac_mem (i := 734) (by decide +kernel) rfl
theorem wu_736 : Cond.instanceMethod ⟨"PairedGatesModel", "tick", "(I)I"⟩ ∈ ac_U := ac_mem (i := 736) (by decide +kernel) rfl
set_option maxRecDepth 100000 in
theorem wu_737 : Cond.code ⟨"PairedGatesModel", "tick", "(I)I"⟩ prog_10_method_17_code 4 (some (.int)) ∈ ac_U := ac_mem (i := 737) rfl rfl
theorem wu_738 : Cond.methodLink "PairedGatesModel" 113 ⟨"PairedGatesModel", "takeOldest", "(I)I"⟩ ∈ ac_U := ac_mem (i := 738) (by decide +kernel) rfl
theorem wu_740 : Cond.instanceMethod ⟨"PairedGatesModel", "takeOldest", "(I)I"⟩ ∈ ac_U := ac_mem (i := 740) (by decide +kernel) rfl
set_option maxRecDepth 100000 in
theorem wu_741 : Cond.code ⟨"PairedGatesModel", "takeOldest", "(I)I"⟩ prog_10_method_6_code 4 (some (.int)) ∈ ac_U := ac_mem (i := 741) rfl rfl
theorem wu_742 : Cond.methodLink "PairedGatesModel" 95 ⟨"PairedGatesModel", "giveBack", "(I)V"⟩ ∈ ac_U := ac_mem (i := 742) (by decide +kernel) rfl
theorem wu_744 : Cond.instanceMethod ⟨"PairedGatesModel", "giveBack", "(I)V"⟩ ∈ ac_U := ac_mem (i := 744) (by decide +kernel) rfl
set_option maxRecDepth 100000 in
theorem wu_745 : Cond.code ⟨"PairedGatesModel", "giveBack", "(I)V"⟩ prog_10_method_5_code 2 none ∈ ac_U := ac_mem (i := 745) rfl rfl
theorem wu_746 : Cond.methodLink "PairedGatesModel" 124 ⟨"PairedGatesModel", "look", "(I)V"⟩ ∈ ac_U := ac_mem (i := 746) (by decide +kernel) rfl
theorem wu_748 : Cond.instanceMethod ⟨"PairedGatesModel", "look", "(I)V"⟩ ∈ ac_U := ac_mem (i := 748) (by decide +kernel) rfl
set_option maxRecDepth 100000 in
theorem wu_749 : Cond.code ⟨"PairedGatesModel", "look", "(I)V"⟩ prog_10_method_8_code 6 none ∈ ac_U := ac_mem (i := 749) rfl rfl
theorem wu_750 : Cond.methodLink "PairedGatesModel" 127 ⟨"PairedGatesModel", "goOn", "(I)I"⟩ ∈ ac_U := ac_mem (i := 750) (by decide +kernel) rfl
theorem wu_752 : Cond.instanceMethod ⟨"PairedGatesModel", "goOn", "(I)I"⟩ ∈ ac_U := ac_mem (i := 752) (by decide +kernel) rfl
set_option maxRecDepth 100000 in
theorem wu_753 : Cond.code ⟨"PairedGatesModel", "goOn", "(I)I"⟩ prog_10_method_12_code 8 (some (.int)) ∈ ac_U := ac_mem (i := 753) rfl rfl
theorem wu_754 : Cond.methodLink "PairedGatesModel" 99 ⟨"PairedGatesModel", "meets", "(III)Z"⟩ ∈ ac_U := ac_mem (i := 754) (by decide +kernel) rfl
theorem wu_756 : Cond.instanceMethod ⟨"PairedGatesModel", "meets", "(III)Z"⟩ ∈ ac_U := ac_mem (i := 756) (by decide +kernel) rfl
set_option maxRecDepth 100000 in
theorem wu_757 : Cond.code ⟨"PairedGatesModel", "meets", "(III)Z"⟩ prog_10_method_9_code 4 (some (.boolean)) ∈ ac_U := ac_mem (i := 757) rfl rfl
theorem wu_758 : Cond.methodLink "PairedGatesModel" 103 ⟨"PairedGatesModel", "leave", "(II)V"⟩ ∈ ac_U := ac_mem (i := 758) (by decide +kernel) rfl
theorem wu_760 : Cond.instanceMethod ⟨"PairedGatesModel", "leave", "(II)V"⟩ ∈ ac_U := ac_mem (i := 760) (by decide +kernel) rfl
set_option maxRecDepth 100000 in
theorem wu_761 : Cond.code ⟨"PairedGatesModel", "leave", "(II)V"⟩ prog_10_method_11_code 6 none ∈ ac_U := ac_mem (i := 761) rfl rfl
theorem wu_762 : Cond.methodLink "PairedGatesModel" 107 ⟨"PairedGatesModel", "copy", "(II)V"⟩ ∈ ac_U := ac_mem (i := 762) (by decide +kernel) rfl
theorem wu_764 : Cond.instanceMethod ⟨"PairedGatesModel", "copy", "(II)V"⟩ ∈ ac_U := ac_mem (i := 764) (by decide +kernel) rfl
set_option maxRecDepth 100000 in
theorem wu_765 : Cond.code ⟨"PairedGatesModel", "copy", "(II)V"⟩ prog_10_method_10_code 3 none ∈ ac_U := ac_mem (i := 765) rfl rfl
theorem wu_766 : Cond.methodLink "PairedGatesModel" 130 ⟨"PairedGatesModel", "share", "(II)V"⟩ ∈ ac_U := ac_mem (i := 766) (by decide +kernel) rfl
theorem wu_768 : Cond.instanceMethod ⟨"PairedGatesModel", "share", "(II)V"⟩ ∈ ac_U := ac_mem (i := 768) (by decide +kernel) rfl
set_option maxRecDepth 100000 in
theorem wu_769 : Cond.code ⟨"PairedGatesModel", "share", "(II)V"⟩ prog_10_method_13_code 11 none ∈ ac_U := ac_mem (i := 769) rfl rfl
theorem wu_770 : Cond.methodLink "PairedGatesModel" 110 ⟨"PairedGatesModel", "begin", "(II)V"⟩ ∈ ac_U := ac_mem (i := 770) (by decide +kernel) rfl
theorem wu_772 : Cond.instanceMethod ⟨"PairedGatesModel", "begin", "(II)V"⟩ ∈ ac_U := ac_mem (i := 772) (by decide +kernel) rfl
set_option maxRecDepth 100000 in
theorem wu_773 : Cond.code ⟨"PairedGatesModel", "begin", "(II)V"⟩ prog_10_method_14_code 7 none ∈ ac_U := ac_mem (i := 773) rfl rfl
theorem wu_774 : Cond.methodLink "PairedGatesModel" 133 ⟨"PairedGatesModel", "pay", "(I)V"⟩ ∈ ac_U := ac_mem (i := 774) (by decide +kernel) rfl
theorem wu_776 : Cond.instanceMethod ⟨"PairedGatesModel", "pay", "(I)V"⟩ ∈ ac_U := ac_mem (i := 776) (by decide +kernel) rfl
set_option maxRecDepth 100000 in
theorem wu_777 : Cond.code ⟨"PairedGatesModel", "pay", "(I)V"⟩ prog_10_method_15_code 6 none ∈ ac_U := ac_mem (i := 777) rfl rfl
theorem wu_778 : Cond.methodLink "PairedGatesModel" 136 ⟨"PairedGatesModel", "turn", "(I)V"⟩ ∈ ac_U := ac_mem (i := 778) (by decide +kernel) rfl
theorem wu_780 : Cond.instanceMethod ⟨"PairedGatesModel", "turn", "(I)V"⟩ ∈ ac_U := ac_mem (i := 780) (by decide +kernel) rfl
set_option maxRecDepth 100000 in
theorem wu_781 : Cond.code ⟨"PairedGatesModel", "turn", "(I)V"⟩ prog_10_method_16_code 4 none ∈ ac_U := ac_mem (i := 781) rfl rfl
theorem wu_782 : Cond.methodLink "PairedGatesLaw" 79 ⟨"PairedGatesModel", "token", "(III)I"⟩ ∈ ac_U := ac_mem (i := 782) (by decide +kernel) rfl
theorem wu_783 : Cond.instanceMethod ⟨"PairedGatesModel", "token", "(III)I"⟩ ∈ ac_U := ac_mem (i := 783) (by decide +kernel) rfl
theorem wu_784 : Cond.selects "PairedGatesModel" ⟨"PairedGatesModel", "token", "(III)I"⟩ ⟨"PairedGatesModel", "token", "(III)I"⟩ ∈ ac_U := ac_mem (i := 784) (by decide +kernel) rfl
set_option maxRecDepth 100000 in
theorem wu_785 : Cond.code ⟨"PairedGatesModel", "token", "(III)I"⟩ prog_10_method_21_code 6 (some (.int)) ∈ ac_U := ac_mem (i := 785) rfl rfl
theorem wu_786 : Cond.methodLink "PairedGatesModel" 152 ⟨"PairedGatesModel", "hasSide", "(II)Z"⟩ ∈ ac_U := ac_mem (i := 786) (by decide +kernel) rfl
theorem wu_788 : Cond.instanceMethod ⟨"PairedGatesModel", "hasSide", "(II)Z"⟩ ∈ ac_U := ac_mem (i := 788) (by decide +kernel) rfl
set_option maxRecDepth 100000 in
theorem wu_789 : Cond.code ⟨"PairedGatesModel", "hasSide", "(II)Z"⟩ prog_10_method_7_code 3 (some (.boolean)) ∈ ac_U := ac_mem (i := 789) rfl rfl
theorem wu_790 : Cond.methodLink "PairedGatesModel" 156 ⟨"PairedGatesModel", "isRepeated", "(I)Z"⟩ ∈ ac_U := ac_mem (i := 790) (by decide +kernel) rfl
theorem wu_792 : Cond.instanceMethod ⟨"PairedGatesModel", "isRepeated", "(I)Z"⟩ ∈ ac_U := ac_mem (i := 792) (by decide +kernel) rfl
set_option maxRecDepth 100000 in
theorem wu_793 : Cond.code ⟨"PairedGatesModel", "isRepeated", "(I)Z"⟩ prog_10_method_20_code 4 (some (.boolean)) ∈ ac_U := ac_mem (i := 793) rfl rfl
theorem wu_794 : Cond.methodLink "PairedGatesLaw" 83 ⟨"PairedGatesModel", "cancel", "(II)I"⟩ ∈ ac_U := ac_mem (i := 794) (by decide +kernel) rfl
theorem wu_795 : Cond.instanceMethod ⟨"PairedGatesModel", "cancel", "(II)I"⟩ ∈ ac_U := ac_mem (i := 795) (by decide +kernel) rfl
theorem wu_796 : Cond.selects "PairedGatesModel" ⟨"PairedGatesModel", "cancel", "(II)I"⟩ ⟨"PairedGatesModel", "cancel", "(II)I"⟩ ∈ ac_U := ac_mem (i := 796) (by decide +kernel) rfl
set_option maxRecDepth 100000 in
theorem wu_797 : Cond.code ⟨"PairedGatesModel", "cancel", "(II)I"⟩ prog_10_method_22_code 5 (some (.int)) ∈ ac_U := ac_mem (i := 797) rfl rfl
theorem wu_798 : Cond.methodLink "PairedGatesLaw" 86 ⟨"PairedGatesModel", "mode", "(II)I"⟩ ∈ ac_U := ac_mem (i := 798) (by decide +kernel) rfl
theorem wu_799 : Cond.instanceMethod ⟨"PairedGatesModel", "mode", "(II)I"⟩ ∈ ac_U := ac_mem (i := 799) (by decide +kernel) rfl
theorem wu_800 : Cond.selects "PairedGatesModel" ⟨"PairedGatesModel", "mode", "(II)I"⟩ ⟨"PairedGatesModel", "mode", "(II)I"⟩ ∈ ac_U := ac_mem (i := 800) (by decide +kernel) rfl
set_option maxRecDepth 100000 in
theorem wu_801 : Cond.code ⟨"PairedGatesModel", "mode", "(II)I"⟩ prog_10_method_23_code 6 (some (.int)) ∈ ac_U := ac_mem (i := 801) rfl rfl
theorem wu_802 : Cond.methodLink "PairedGatesLaw" 91 ⟨"PairedGatesModel", "alarm", "(Z)V"⟩ ∈ ac_U := ac_mem (i := 802) (by decide +kernel) rfl
theorem wu_803 : Cond.instanceMethod ⟨"PairedGatesModel", "alarm", "(Z)V"⟩ ∈ ac_U := ac_mem (i := 803) (by decide +kernel) rfl
theorem wu_804 : Cond.selects "PairedGatesModel" ⟨"PairedGatesModel", "alarm", "(Z)V"⟩ ⟨"PairedGatesModel", "alarm", "(Z)V"⟩ ∈ ac_U := ac_mem (i := 804) (by decide +kernel) rfl
set_option maxRecDepth 100000 in
theorem wu_805 : Cond.code ⟨"PairedGatesModel", "alarm", "(Z)V"⟩ prog_10_method_24_code 2 none ∈ ac_U := ac_mem (i := 805) rfl rfl
theorem wu_806 : Cond.methodLink "PairedGatesLaw" 95 ⟨"PairedGatesModel", "time", "()I"⟩ ∈ ac_U := ac_mem (i := 806) (by decide +kernel) rfl
theorem wu_807 : Cond.instanceMethod ⟨"PairedGatesModel", "time", "()I"⟩ ∈ ac_U := ac_mem (i := 807) (by decide +kernel) rfl
theorem wu_808 : Cond.selects "PairedGatesModel" ⟨"PairedGatesModel", "time", "()I"⟩ ⟨"PairedGatesModel", "time", "()I"⟩ ∈ ac_U := ac_mem (i := 808) (by decide +kernel) rfl
set_option maxRecDepth 100000 in
theorem wu_809 : Cond.code ⟨"PairedGatesModel", "time", "()I"⟩ prog_10_method_25_code 1 (some (.int)) ∈ ac_U := ac_mem (i := 809) rfl rfl
theorem wu_810 : Cond.methodLink "PairedGatesLaw" 98 ⟨"PairedGatesModel", "bodies", "(I)I"⟩ ∈ ac_U := ac_mem (i := 810) (by decide +kernel) rfl
theorem wu_811 : Cond.instanceMethod ⟨"PairedGatesModel", "bodies", "(I)I"⟩ ∈ ac_U := ac_mem (i := 811) (by decide +kernel) rfl
theorem wu_812 : Cond.selects "PairedGatesModel" ⟨"PairedGatesModel", "bodies", "(I)I"⟩ ⟨"PairedGatesModel", "bodies", "(I)I"⟩ ∈ ac_U := ac_mem (i := 812) (by decide +kernel) rfl
set_option maxRecDepth 100000 in
theorem wu_813 : Cond.code ⟨"PairedGatesModel", "bodies", "(I)I"⟩ prog_10_method_26_code 2 (some (.int)) ∈ ac_U := ac_mem (i := 813) rfl rfl
theorem wu_814 : Cond.methodLink "PairedGatesLaw" 101 ⟨"PairedGatesModel", "body", "(III)I"⟩ ∈ ac_U := ac_mem (i := 814) (by decide +kernel) rfl
theorem wu_815 : Cond.instanceMethod ⟨"PairedGatesModel", "body", "(III)I"⟩ ∈ ac_U := ac_mem (i := 815) (by decide +kernel) rfl
theorem wu_816 : Cond.selects "PairedGatesModel" ⟨"PairedGatesModel", "body", "(III)I"⟩ ⟨"PairedGatesModel", "body", "(III)I"⟩ ∈ ac_U := ac_mem (i := 816) (by decide +kernel) rfl
set_option maxRecDepth 100000 in
theorem wu_817 : Cond.code ⟨"PairedGatesModel", "body", "(III)I"⟩ prog_10_method_27_code 6 (some (.int)) ∈ ac_U := ac_mem (i := 817) rfl rfl
theorem wu_818 : Cond.methodLink "PairedGatesLaw" 104 ⟨"PairedGatesModel", "waiting", "(II)I"⟩ ∈ ac_U := ac_mem (i := 818) (by decide +kernel) rfl
theorem wu_819 : Cond.instanceMethod ⟨"PairedGatesModel", "waiting", "(II)I"⟩ ∈ ac_U := ac_mem (i := 819) (by decide +kernel) rfl
theorem wu_820 : Cond.selects "PairedGatesModel" ⟨"PairedGatesModel", "waiting", "(II)I"⟩ ⟨"PairedGatesModel", "waiting", "(II)I"⟩ ∈ ac_U := ac_mem (i := 820) (by decide +kernel) rfl
set_option maxRecDepth 100000 in
theorem wu_821 : Cond.code ⟨"PairedGatesModel", "waiting", "(II)I"⟩ prog_10_method_28_code 3 (some (.int)) ∈ ac_U := ac_mem (i := 821) rfl rfl
theorem wu_822 : Cond.methodLink "PairedGatesLaw" 107 ⟨"PairedGatesModel", "waits", "(III)I"⟩ ∈ ac_U := ac_mem (i := 822) (by decide +kernel) rfl
theorem wu_823 : Cond.instanceMethod ⟨"PairedGatesModel", "waits", "(III)I"⟩ ∈ ac_U := ac_mem (i := 823) (by decide +kernel) rfl
theorem wu_824 : Cond.selects "PairedGatesModel" ⟨"PairedGatesModel", "waits", "(III)I"⟩ ⟨"PairedGatesModel", "waits", "(III)I"⟩ ∈ ac_U := ac_mem (i := 824) (by decide +kernel) rfl
set_option maxRecDepth 100000 in
theorem wu_825 : Cond.code ⟨"PairedGatesModel", "waits", "(III)I"⟩ prog_10_method_29_code 5 (some (.int)) ∈ ac_U := ac_mem (i := 825) rfl rfl
theorem wu_826 : Cond.methodLink "PairedGatesLaw" 110 ⟨"PairedGatesModel", "count", "(II)I"⟩ ∈ ac_U := ac_mem (i := 826) (by decide +kernel) rfl
theorem wu_827 : Cond.instanceMethod ⟨"PairedGatesModel", "count", "(II)I"⟩ ∈ ac_U := ac_mem (i := 827) (by decide +kernel) rfl
theorem wu_828 : Cond.selects "PairedGatesModel" ⟨"PairedGatesModel", "count", "(II)I"⟩ ⟨"PairedGatesModel", "count", "(II)I"⟩ ∈ ac_U := ac_mem (i := 828) (by decide +kernel) rfl
set_option maxRecDepth 100000 in
theorem wu_829 : Cond.code ⟨"PairedGatesModel", "count", "(II)I"⟩ prog_10_method_30_code 3 (some (.int)) ∈ ac_U := ac_mem (i := 829) rfl rfl
theorem wu_830 : Cond.methodLink "PairedGatesLaw" 113 ⟨"PairedGatesModel", "angle", "(I)I"⟩ ∈ ac_U := ac_mem (i := 830) (by decide +kernel) rfl
theorem wu_831 : Cond.instanceMethod ⟨"PairedGatesModel", "angle", "(I)I"⟩ ∈ ac_U := ac_mem (i := 831) (by decide +kernel) rfl
theorem wu_832 : Cond.selects "PairedGatesModel" ⟨"PairedGatesModel", "angle", "(I)I"⟩ ⟨"PairedGatesModel", "angle", "(I)I"⟩ ∈ ac_U := ac_mem (i := 832) (by decide +kernel) rfl
set_option maxRecDepth 100000 in
theorem wu_833 : Cond.code ⟨"PairedGatesModel", "angle", "(I)I"⟩ prog_10_method_31_code 2 (some (.int)) ∈ ac_U := ac_mem (i := 833) rfl rfl
theorem wu_834 : Cond.methodLink "PairedGatesLaw" 116 ⟨"PairedGatesModel", "order", "(I)I"⟩ ∈ ac_U := ac_mem (i := 834) (by decide +kernel) rfl
theorem wu_835 : Cond.instanceMethod ⟨"PairedGatesModel", "order", "(I)I"⟩ ∈ ac_U := ac_mem (i := 835) (by decide +kernel) rfl
theorem wu_836 : Cond.selects "PairedGatesModel" ⟨"PairedGatesModel", "order", "(I)I"⟩ ⟨"PairedGatesModel", "order", "(I)I"⟩ ∈ ac_U := ac_mem (i := 836) (by decide +kernel) rfl
set_option maxRecDepth 100000 in
theorem wu_837 : Cond.code ⟨"PairedGatesModel", "order", "(I)I"⟩ prog_10_method_32_code 2 (some (.int)) ∈ ac_U := ac_mem (i := 837) rfl rfl
theorem wu_838 : Cond.methodLink "PairedGatesLaw" 119 ⟨"PairedGatesModel", "seen", "(I)I"⟩ ∈ ac_U := ac_mem (i := 838) (by decide +kernel) rfl
theorem wu_839 : Cond.instanceMethod ⟨"PairedGatesModel", "seen", "(I)I"⟩ ∈ ac_U := ac_mem (i := 839) (by decide +kernel) rfl
theorem wu_840 : Cond.selects "PairedGatesModel" ⟨"PairedGatesModel", "seen", "(I)I"⟩ ⟨"PairedGatesModel", "seen", "(I)I"⟩ ∈ ac_U := ac_mem (i := 840) (by decide +kernel) rfl
set_option maxRecDepth 100000 in
theorem wu_841 : Cond.code ⟨"PairedGatesModel", "seen", "(I)I"⟩ prog_10_method_33_code 2 (some (.int)) ∈ ac_U := ac_mem (i := 841) rfl rfl
theorem wu_842 : Cond.methodLink "PairedGatesLaw" 123 ⟨"PairedGatesModel", "accepted", "()I"⟩ ∈ ac_U := ac_mem (i := 842) (by decide +kernel) rfl
theorem wu_843 : Cond.instanceMethod ⟨"PairedGatesModel", "accepted", "()I"⟩ ∈ ac_U := ac_mem (i := 843) (by decide +kernel) rfl
theorem wu_844 : Cond.selects "PairedGatesModel" ⟨"PairedGatesModel", "accepted", "()I"⟩ ⟨"PairedGatesModel", "accepted", "()I"⟩ ∈ ac_U := ac_mem (i := 844) (by decide +kernel) rfl
set_option maxRecDepth 100000 in
theorem wu_845 : Cond.code ⟨"PairedGatesModel", "accepted", "()I"⟩ prog_10_method_34_code 1 (some (.int)) ∈ ac_U := ac_mem (i := 845) rfl rfl
theorem wu_846 : Cond.methodLink "PairedGatesLaw" 127 ⟨"PairedGatesModel", "refunds", "()I"⟩ ∈ ac_U := ac_mem (i := 846) (by decide +kernel) rfl
theorem wu_847 : Cond.instanceMethod ⟨"PairedGatesModel", "refunds", "()I"⟩ ∈ ac_U := ac_mem (i := 847) (by decide +kernel) rfl
theorem wu_848 : Cond.selects "PairedGatesModel" ⟨"PairedGatesModel", "refunds", "()I"⟩ ⟨"PairedGatesModel", "refunds", "()I"⟩ ∈ ac_U := ac_mem (i := 848) (by decide +kernel) rfl
set_option maxRecDepth 100000 in
theorem wu_849 : Cond.code ⟨"PairedGatesModel", "refunds", "()I"⟩ prog_10_method_35_code 1 (some (.int)) ∈ ac_U := ac_mem (i := 849) rfl rfl
theorem wu_850 : Cond.methodLink "PairedGatesLaw" 131 ⟨"PairedGatesModel", "refund", "(I)I"⟩ ∈ ac_U := ac_mem (i := 850) (by decide +kernel) rfl
theorem wu_851 : Cond.instanceMethod ⟨"PairedGatesModel", "refund", "(I)I"⟩ ∈ ac_U := ac_mem (i := 851) (by decide +kernel) rfl
theorem wu_852 : Cond.selects "PairedGatesModel" ⟨"PairedGatesModel", "refund", "(I)I"⟩ ⟨"PairedGatesModel", "refund", "(I)I"⟩ ∈ ac_U := ac_mem (i := 852) (by decide +kernel) rfl
set_option maxRecDepth 100000 in
theorem wu_853 : Cond.code ⟨"PairedGatesModel", "refund", "(I)I"⟩ prog_10_method_36_code 2 (some (.int)) ∈ ac_U := ac_mem (i := 853) rfl rfl
theorem wu_854 : Cond.arrayClass .long ∈ ac_U := ac_mem (i := 854) (by decide +kernel) rfl
