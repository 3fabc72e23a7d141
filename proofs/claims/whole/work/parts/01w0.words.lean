def hs_gt : List Cond := lw_tbl.filter goodWord
theorem hs_gt_of {w : Cond} (h : w ∈ lw_tbl) (g : goodWord w = true) : w ∈ hs_gt := List.mem_filter.mpr ⟨h, g⟩
theorem tw_0 : (Cond.selects "HireShed" ⟨"HireShed", "newTool", "(III)LHireShed$Tool;"⟩ ⟨"HireShed", "newTool", "(III)LHireShed$Tool;"⟩) ∈ hs_gt := hs_gt_of (List.mem_of_getElem? (i := 0) (by decide +kernel)) rfl
theorem tw_1 : (Cond.selects "HireShed" ⟨"HireShed", "toolAt", "(I)LHireShed$Tool;"⟩ ⟨"HireShed", "toolAt", "(I)LHireShed$Tool;"⟩) ∈ hs_gt := hs_gt_of (List.mem_of_getElem? (i := 1) (by decide +kernel)) rfl
theorem tw_2 : (Cond.selects "HireShed" ⟨"HireShed", "pay", "(II)V"⟩ ⟨"HireShed", "pay", "(II)V"⟩) ∈ hs_gt := hs_gt_of (List.mem_of_getElem? (i := 2) (by decide +kernel)) rfl
theorem tw_3 : (Cond.selects "HireShed" ⟨"HireShed", "toolsThatAre", "(I)I"⟩ ⟨"HireShed", "toolsThatAre", "(I)I"⟩) ∈ hs_gt := hs_gt_of (List.mem_of_getElem? (i := 3) (by decide +kernel)) rfl
theorem tw_4 : (Cond.selects "HireShedModel" ⟨"HireShedModel", "isTool", "(I)Z"⟩ ⟨"HireShedModel", "isTool", "(I)Z"⟩) ∈ hs_gt := hs_gt_of (List.mem_of_getElem? (i := 4) (by decide +kernel)) rfl
theorem tw_5 : (Cond.selects "HireShedModel" ⟨"HireShedModel", "answers", "(II)Z"⟩ ⟨"HireShedModel", "answers", "(II)Z"⟩) ∈ hs_gt := hs_gt_of (List.mem_of_getElem? (i := 5) (by decide +kernel)) rfl
theorem tw_6 : (Cond.selects "HireShedModel" ⟨"HireShedModel", "isInsured", "(I)Z"⟩ ⟨"HireShedModel", "isInsured", "(I)Z"⟩) ∈ hs_gt := hs_gt_of (List.mem_of_getElem? (i := 6) (by decide +kernel)) rfl
theorem tw_7 : (Cond.selects "HireShedModel" ⟨"HireShedModel", "isServiced", "(I)Z"⟩ ⟨"HireShedModel", "isServiced", "(I)Z"⟩) ∈ hs_gt := hs_gt_of (List.mem_of_getElem? (i := 7) (by decide +kernel)) rfl
theorem tw_8 : (Cond.selects "HireShedModel" ⟨"HireShedModel", "charge", "(II)I"⟩ ⟨"HireShedModel", "charge", "(II)I"⟩) ∈ hs_gt := hs_gt_of (List.mem_of_getElem? (i := 8) (by decide +kernel)) rfl
theorem tw_9 : (Cond.selects "HireShedModel" ⟨"HireShedModel", "body", "(I)V"⟩ ⟨"HireShedModel", "body", "(I)V"⟩) ∈ hs_gt := hs_gt_of (List.mem_of_getElem? (i := 9) (by decide +kernel)) rfl
theorem tw_10 : (Cond.selects "HireShedModel" ⟨"HireShedModel", "wear", "(II)I"⟩ ⟨"HireShedModel", "wear", "(II)I"⟩) ∈ hs_gt := hs_gt_of (List.mem_of_getElem? (i := 10) (by decide +kernel)) rfl
theorem tw_11 : (Cond.selects "HireShedModel" ⟨"HireShedModel", "check", "(I)I"⟩ ⟨"HireShedModel", "check", "(I)I"⟩) ∈ hs_gt := hs_gt_of (List.mem_of_getElem? (i := 11) (by decide +kernel)) rfl
theorem tw_12 : (Cond.selects "HireShedModel" ⟨"HireShedModel", "deposit", "(I)I"⟩ ⟨"HireShedModel", "deposit", "(I)I"⟩) ∈ hs_gt := hs_gt_of (List.mem_of_getElem? (i := 12) (by decide +kernel)) rfl
theorem tw_13 : (Cond.selects "HireShedModel" ⟨"HireShedModel", "premium", "(II)I"⟩ ⟨"HireShedModel", "premium", "(II)I"⟩) ∈ hs_gt := hs_gt_of (List.mem_of_getElem? (i := 13) (by decide +kernel)) rfl
theorem tw_14 : (Cond.selects "HireShedModel" ⟨"HireShedModel", "due", "(II)I"⟩ ⟨"HireShedModel", "due", "(II)I"⟩) ∈ hs_gt := hs_gt_of (List.mem_of_getElem? (i := 14) (by decide +kernel)) rfl
theorem tw_15 : (Cond.selects "HireShedModel" ⟨"HireShedModel", "lent", "(I)I"⟩ ⟨"HireShedModel", "lent", "(I)I"⟩) ∈ hs_gt := hs_gt_of (List.mem_of_getElem? (i := 15) (by decide +kernel)) rfl
theorem tw_16 : (Cond.initialized "HireShedLaw") ∈ hs_gt := hs_gt_of (List.mem_of_getElem? (i := 16) (by decide +kernel)) rfl
theorem tw_17 : (Cond.initialized "HireShed") ∈ hs_gt := hs_gt_of (List.mem_of_getElem? (i := 17) (by decide +kernel)) rfl
theorem tw_18 : (Cond.initialized "HireShed$Trace") ∈ hs_gt := hs_gt_of (List.mem_of_getElem? (i := 18) (by decide +kernel)) rfl
theorem tw_19 : (Cond.initialized "HireShedModel") ∈ hs_gt := hs_gt_of (List.mem_of_getElem? (i := 19) (by decide +kernel)) rfl
theorem tw_20 : (Cond.initialized "HireShed$Tool") ∈ hs_gt := hs_gt_of (List.mem_of_getElem? (i := 20) (by decide +kernel)) rfl
theorem tw_21 : (Cond.initialized "HireShed$Powered") ∈ hs_gt := hs_gt_of (List.mem_of_getElem? (i := 21) (by decide +kernel)) rfl
theorem tw_22 : (Cond.initialized "HireShed$Saw") ∈ hs_gt := hs_gt_of (List.mem_of_getElem? (i := 22) (by decide +kernel)) rfl
theorem tw_23 : (Cond.initialized "HireShed$BenchSaw") ∈ hs_gt := hs_gt_of (List.mem_of_getElem? (i := 23) (by decide +kernel)) rfl
theorem tw_24 : (Cond.initialized "HireShed$TreeSaw") ∈ hs_gt := hs_gt_of (List.mem_of_getElem? (i := 24) (by decide +kernel)) rfl
theorem tw_25 : (Cond.initialized "HireShed$Pump") ∈ hs_gt := hs_gt_of (List.mem_of_getElem? (i := 25) (by decide +kernel)) rfl
theorem tw_26 : (Cond.initialized "HireShed$DeepPump") ∈ hs_gt := hs_gt_of (List.mem_of_getElem? (i := 26) (by decide +kernel)) rfl
theorem tw_27 : (Cond.initialized "java/lang/Math") ∈ hs_gt := hs_gt_of (List.mem_of_getElem? (i := 27) (by decide +kernel)) rfl
theorem tw_28 : (Cond.classLink "HireShedLaw" 7 "HireShed") ∈ hs_gt := hs_gt_of (List.mem_of_getElem? (i := 28) (by decide +kernel)) rfl
theorem tw_29 : (Cond.instantiable "HireShed" 7) ∈ hs_gt := hs_gt_of (List.mem_of_getElem? (i := 29) (by decide +kernel)) rfl
theorem tw_30 : (Cond.methodLink "HireShedLaw" 9 ⟨"HireShed", "<init>", "()V"⟩) ∈ hs_gt := hs_gt_of (List.mem_of_getElem? (i := 30) (by decide +kernel)) rfl
theorem tw_31 : (Cond.instanceMethod ⟨"HireShed", "<init>", "()V"⟩) ∈ hs_gt := hs_gt_of (List.mem_of_getElem? (i := 31) (by decide +kernel)) rfl
theorem tw_33 : (Cond.methodLink "HireShed" 1 ⟨"java/lang/Object", "<init>", "()V"⟩) ∈ hs_gt := hs_gt_of (List.mem_of_getElem? (i := 33) (by decide +kernel)) rfl
theorem tw_34 : (Cond.instanceMethod ⟨"java/lang/Object", "<init>", "()V"⟩) ∈ hs_gt := hs_gt_of (List.mem_of_getElem? (i := 34) (by decide +kernel)) rfl
theorem tw_36 : (Cond.classLink "HireShed" 7 "HireShed$Trace") ∈ hs_gt := hs_gt_of (List.mem_of_getElem? (i := 36) (by decide +kernel)) rfl
theorem tw_37 : (Cond.instantiable "HireShed$Trace" 3) ∈ hs_gt := hs_gt_of (List.mem_of_getElem? (i := 37) (by decide +kernel)) rfl
theorem tw_38 : (Cond.methodLinkNest "HireShed" 9 ⟨"HireShed$Trace", "<init>", "()V"⟩ "HireShed") ∈ lw_tbl := List.mem_of_getElem? (i := 38) (by decide +kernel)
theorem tw_39 : (Cond.instanceMethod ⟨"HireShed$Trace", "<init>", "()V"⟩) ∈ hs_gt := hs_gt_of (List.mem_of_getElem? (i := 39) (by decide +kernel)) rfl
theorem tw_41 : (Cond.methodLink "HireShed$Trace" 3 ⟨"java/lang/Object", "<init>", "()V"⟩) ∈ hs_gt := hs_gt_of (List.mem_of_getElem? (i := 41) (by decide +kernel)) rfl
theorem tw_42 : (Cond.fieldLink "HireShed$Trace" 11 "HireShed$Trace" "numbers" "[I") ∈ hs_gt := hs_gt_of (List.mem_of_getElem? (i := 42) (by decide +kernel)) rfl
theorem tw_43 : (Cond.fieldLink "HireShed$Trace" 15 "HireShed$Trace" "size" "I") ∈ hs_gt := hs_gt_of (List.mem_of_getElem? (i := 43) (by decide +kernel)) rfl
theorem tw_44 : (Cond.fieldLink "HireShed$Trace" 19 "HireShed$Trace" "open" "Z") ∈ hs_gt := hs_gt_of (List.mem_of_getElem? (i := 44) (by decide +kernel)) rfl
theorem tw_45 : (Cond.laysFinal "HireShed$Trace" "HireShed$Trace" "numbers" "[I") ∈ hs_gt := hs_gt_of (List.mem_of_getElem? (i := 45) (by decide +kernel)) rfl
theorem tw_46 : (Cond.soleField "HireShed$Trace" "numbers") ∈ hs_gt := hs_gt_of (List.mem_of_getElem? (i := 46) (by decide +kernel)) rfl
theorem tw_47 : (Cond.lays "HireShed$Trace" "HireShed$Trace" "size" "I") ∈ hs_gt := hs_gt_of (List.mem_of_getElem? (i := 47) (by decide +kernel)) rfl
theorem tw_48 : (Cond.soleField "HireShed$Trace" "size") ∈ hs_gt := hs_gt_of (List.mem_of_getElem? (i := 48) (by decide +kernel)) rfl
theorem tw_49 : (Cond.lays "HireShed$Trace" "HireShed$Trace" "open" "Z") ∈ hs_gt := hs_gt_of (List.mem_of_getElem? (i := 49) (by decide +kernel)) rfl
theorem tw_50 : (Cond.soleField "HireShed$Trace" "open") ∈ hs_gt := hs_gt_of (List.mem_of_getElem? (i := 50) (by decide +kernel)) rfl
theorem tw_51 : (Cond.superclass "HireShed$Trace" "java/lang/Object") ∈ hs_gt := hs_gt_of (List.mem_of_getElem? (i := 51) (by decide +kernel)) rfl
theorem tw_52 : (Cond.arrayClass FieldType.int) ∈ hs_gt := hs_gt_of (List.mem_of_getElem? (i := 52) (by decide +kernel)) rfl
theorem tw_53 : (Cond.classLink "HireShed" 16 "HireShed$Tool") ∈ hs_gt := hs_gt_of (List.mem_of_getElem? (i := 53) (by decide +kernel)) rfl
theorem tw_54 : (Cond.arrayOver (FieldType.object "HireShed$Tool")) ∈ lw_tbl := List.mem_of_getElem? (i := 54) (by decide +kernel)
theorem tw_55 : (Cond.fieldLink "HireShed" 10 "HireShed" "latest" "LHireShed$Trace;") ∈ hs_gt := hs_gt_of (List.mem_of_getElem? (i := 55) (by decide +kernel)) rfl
theorem tw_56 : (Cond.fieldLink "HireShed" 18 "HireShed" "tools" "[LHireShed$Tool;") ∈ hs_gt := hs_gt_of (List.mem_of_getElem? (i := 56) (by decide +kernel)) rfl
theorem tw_57 : (Cond.fieldLink "HireShed" 22 "HireShed" "accounts" "[J") ∈ hs_gt := hs_gt_of (List.mem_of_getElem? (i := 57) (by decide +kernel)) rfl
theorem tw_58 : (Cond.fieldLink "HireShed" 26 "HireShed" "toolCount" "I") ∈ hs_gt := hs_gt_of (List.mem_of_getElem? (i := 58) (by decide +kernel)) rfl
theorem tw_59 : (Cond.fieldLink "HireShed" 30 "HireShed" "today" "I") ∈ hs_gt := hs_gt_of (List.mem_of_getElem? (i := 59) (by decide +kernel)) rfl
theorem tw_60 : (Cond.fieldLink "HireShed" 33 "HireShed" "costs" "I") ∈ hs_gt := hs_gt_of (List.mem_of_getElem? (i := 60) (by decide +kernel)) rfl
theorem tw_61 : (Cond.fieldLink "HireShed" 36 "HireShed" "hires" "I") ∈ hs_gt := hs_gt_of (List.mem_of_getElem? (i := 61) (by decide +kernel)) rfl
theorem tw_62 : (Cond.laysFinal "HireShed" "HireShed" "latest" "LHireShed$Trace;") ∈ hs_gt := hs_gt_of (List.mem_of_getElem? (i := 62) (by decide +kernel)) rfl
theorem tw_63 : (Cond.soleField "HireShed" "latest") ∈ hs_gt := hs_gt_of (List.mem_of_getElem? (i := 63) (by decide +kernel)) rfl
theorem tw_64 : (Cond.laysFinal "HireShed" "HireShed" "tools" "[LHireShed$Tool;") ∈ hs_gt := hs_gt_of (List.mem_of_getElem? (i := 64) (by decide +kernel)) rfl
theorem tw_65 : (Cond.soleField "HireShed" "tools") ∈ hs_gt := hs_gt_of (List.mem_of_getElem? (i := 65) (by decide +kernel)) rfl
theorem tw_66 : (Cond.laysFinal "HireShed" "HireShed" "accounts" "[J") ∈ hs_gt := hs_gt_of (List.mem_of_getElem? (i := 66) (by decide +kernel)) rfl
theorem tw_67 : (Cond.soleField "HireShed" "accounts") ∈ hs_gt := hs_gt_of (List.mem_of_getElem? (i := 67) (by decide +kernel)) rfl
theorem tw_68 : (Cond.lays "HireShed" "HireShed" "toolCount" "I") ∈ hs_gt := hs_gt_of (List.mem_of_getElem? (i := 68) (by decide +kernel)) rfl
theorem tw_69 : (Cond.soleField "HireShed" "toolCount") ∈ hs_gt := hs_gt_of (List.mem_of_getElem? (i := 69) (by decide +kernel)) rfl
theorem tw_70 : (Cond.lays "HireShed" "HireShed" "today" "I") ∈ hs_gt := hs_gt_of (List.mem_of_getElem? (i := 70) (by decide +kernel)) rfl
theorem tw_71 : (Cond.soleField "HireShed" "today") ∈ hs_gt := hs_gt_of (List.mem_of_getElem? (i := 71) (by decide +kernel)) rfl
theorem tw_72 : (Cond.lays "HireShed" "HireShed" "costs" "I") ∈ hs_gt := hs_gt_of (List.mem_of_getElem? (i := 72) (by decide +kernel)) rfl
theorem tw_73 : (Cond.soleField "HireShed" "costs") ∈ hs_gt := hs_gt_of (List.mem_of_getElem? (i := 73) (by decide +kernel)) rfl
theorem tw_74 : (Cond.lays "HireShed" "HireShed" "hires" "I") ∈ hs_gt := hs_gt_of (List.mem_of_getElem? (i := 74) (by decide +kernel)) rfl
theorem tw_75 : (Cond.soleField "HireShed" "hires") ∈ hs_gt := hs_gt_of (List.mem_of_getElem? (i := 75) (by decide +kernel)) rfl
theorem tw_76 : (Cond.superclass "HireShed" "java/lang/Object") ∈ hs_gt := hs_gt_of (List.mem_of_getElem? (i := 76) (by decide +kernel)) rfl
theorem tw_77 : (Cond.arrayClass FieldType.long) ∈ hs_gt := hs_gt_of (List.mem_of_getElem? (i := 77) (by decide +kernel)) rfl
theorem tw_78 : (Cond.methodLink "HireShedLaw" 13 ⟨"HireShed", "tool", "(III)I"⟩) ∈ hs_gt := hs_gt_of (List.mem_of_getElem? (i := 78) (by decide +kernel)) rfl
theorem tw_79 : (Cond.instanceMethod ⟨"HireShed", "tool", "(III)I"⟩) ∈ hs_gt := hs_gt_of (List.mem_of_getElem? (i := 79) (by decide +kernel)) rfl
theorem tw_80 : (Cond.selects "HireShed" ⟨"HireShed", "tool", "(III)I"⟩ ⟨"HireShed", "tool", "(III)I"⟩) ∈ hs_gt := hs_gt_of (List.mem_of_getElem? (i := 80) (by decide +kernel)) rfl
theorem tw_82 : (Cond.methodLink "HireShed" 39 ⟨"HireShed", "isWithin", "(III)Z"⟩) ∈ hs_gt := hs_gt_of (List.mem_of_getElem? (i := 82) (by decide +kernel)) rfl
theorem tw_83 : (Cond.static ⟨"HireShed", "isWithin", "(III)Z"⟩) ∈ hs_gt := hs_gt_of (List.mem_of_getElem? (i := 83) (by decide +kernel)) rfl
theorem tw_85 : (Cond.constant "HireShed" 43 (100000 : Int32)) ∈ hs_gt := hs_gt_of (List.mem_of_getElem? (i := 85) (by decide +kernel)) rfl
theorem tw_86 : (Cond.methodLink "HireShed" 44 ⟨"HireShed", "newTool", "(III)LHireShed$Tool;"⟩) ∈ hs_gt := hs_gt_of (List.mem_of_getElem? (i := 86) (by decide +kernel)) rfl
theorem tw_87 : (Cond.privateMethod ⟨"HireShed", "newTool", "(III)LHireShed$Tool;"⟩) ∈ lw_tbl := List.mem_of_getElem? (i := 87) (by decide +kernel)
theorem tw_88 : (Cond.instanceMethod ⟨"HireShed", "newTool", "(III)LHireShed$Tool;"⟩) ∈ hs_gt := hs_gt_of (List.mem_of_getElem? (i := 88) (by decide +kernel)) rfl
theorem tw_90 : (Cond.classLink "HireShed" 135 "HireShed$Powered") ∈ hs_gt := hs_gt_of (List.mem_of_getElem? (i := 90) (by decide +kernel)) rfl
theorem tw_91 : (Cond.instantiable "HireShed$Powered" 8) ∈ hs_gt := hs_gt_of (List.mem_of_getElem? (i := 91) (by decide +kernel)) rfl
theorem tw_92 : (Cond.methodLink "HireShed" 137 ⟨"HireShed$Powered", "<init>", "(IIILHireShed$Trace;)V"⟩) ∈ hs_gt := hs_gt_of (List.mem_of_getElem? (i := 92) (by decide +kernel)) rfl
theorem tw_93 : (Cond.instanceMethod ⟨"HireShed$Powered", "<init>", "(IIILHireShed$Trace;)V"⟩) ∈ hs_gt := hs_gt_of (List.mem_of_getElem? (i := 93) (by decide +kernel)) rfl
theorem tw_95 : (Cond.methodLink "HireShed$Powered" 1 ⟨"HireShed$Tool", "<init>", "(IIILHireShed$Trace;)V"⟩) ∈ hs_gt := hs_gt_of (List.mem_of_getElem? (i := 95) (by decide +kernel)) rfl
theorem tw_96 : (Cond.instanceMethod ⟨"HireShed$Tool", "<init>", "(IIILHireShed$Trace;)V"⟩) ∈ hs_gt := hs_gt_of (List.mem_of_getElem? (i := 96) (by decide +kernel)) rfl
theorem tw_98 : (Cond.methodLink "HireShed$Tool" 3 ⟨"java/lang/Object", "<init>", "()V"⟩) ∈ hs_gt := hs_gt_of (List.mem_of_getElem? (i := 98) (by decide +kernel)) rfl
theorem tw_99 : (Cond.fieldLink "HireShed$Tool" 33 "HireShed$Tool" "trace" "LHireShed$Trace;") ∈ hs_gt := hs_gt_of (List.mem_of_getElem? (i := 99) (by decide +kernel)) rfl
theorem tw_100 : (Cond.fieldLink "HireShed$DeepPump" 7 "HireShed$DeepPump" "trace" "LHireShed$Trace;") ∈ hs_gt := hs_gt_of (List.mem_of_getElem? (i := 100) (by decide +kernel)) rfl
theorem tw_101 : (Cond.sameField "HireShed$DeepPump" "HireShed$Tool" "trace" "LHireShed$Trace;") ∈ hs_gt := hs_gt_of (List.mem_of_getElem? (i := 101) (by decide +kernel)) rfl
theorem tw_102 : (Cond.fieldLink "HireShed$TreeSaw" 7 "HireShed$TreeSaw" "trace" "LHireShed$Trace;") ∈ hs_gt := hs_gt_of (List.mem_of_getElem? (i := 102) (by decide +kernel)) rfl
theorem tw_103 : (Cond.sameField "HireShed$TreeSaw" "HireShed$Tool" "trace" "LHireShed$Trace;") ∈ hs_gt := hs_gt_of (List.mem_of_getElem? (i := 103) (by decide +kernel)) rfl
theorem tw_104 : (Cond.fieldLink "HireShed$Saw" 7 "HireShed$Saw" "trace" "LHireShed$Trace;") ∈ hs_gt := hs_gt_of (List.mem_of_getElem? (i := 104) (by decide +kernel)) rfl
theorem tw_105 : (Cond.sameField "HireShed$Saw" "HireShed$Tool" "trace" "LHireShed$Trace;") ∈ hs_gt := hs_gt_of (List.mem_of_getElem? (i := 105) (by decide +kernel)) rfl
theorem tw_106 : (Cond.fieldLink "HireShed$Pump" 7 "HireShed$Pump" "trace" "LHireShed$Trace;") ∈ hs_gt := hs_gt_of (List.mem_of_getElem? (i := 106) (by decide +kernel)) rfl
theorem tw_107 : (Cond.sameField "HireShed$Pump" "HireShed$Tool" "trace" "LHireShed$Trace;") ∈ hs_gt := hs_gt_of (List.mem_of_getElem? (i := 107) (by decide +kernel)) rfl
theorem tw_108 : (Cond.fieldLink "HireShed$BenchSaw" 7 "HireShed$BenchSaw" "trace" "LHireShed$Trace;") ∈ hs_gt := hs_gt_of (List.mem_of_getElem? (i := 108) (by decide +kernel)) rfl
theorem tw_109 : (Cond.sameField "HireShed$BenchSaw" "HireShed$Tool" "trace" "LHireShed$Trace;") ∈ hs_gt := hs_gt_of (List.mem_of_getElem? (i := 109) (by decide +kernel)) rfl
theorem tw_110 : (Cond.fieldLink "HireShed$Powered" 7 "HireShed$Powered" "trace" "LHireShed$Trace;") ∈ hs_gt := hs_gt_of (List.mem_of_getElem? (i := 110) (by decide +kernel)) rfl
theorem tw_111 : (Cond.sameField "HireShed$Powered" "HireShed$Tool" "trace" "LHireShed$Trace;") ∈ hs_gt := hs_gt_of (List.mem_of_getElem? (i := 111) (by decide +kernel)) rfl
theorem tw_112 : (Cond.fieldLink "HireShed$Tool" 24 "HireShed$Tool" "kind" "I") ∈ hs_gt := hs_gt_of (List.mem_of_getElem? (i := 112) (by decide +kernel)) rfl
theorem tw_113 : (Cond.fieldLink "HireShed" 119 "HireShed$Tool" "kind" "I") ∈ hs_gt := hs_gt_of (List.mem_of_getElem? (i := 113) (by decide +kernel)) rfl
theorem tw_114 : (Cond.fieldLink "HireShed$Tool" 27 "HireShed$Tool" "rate" "I") ∈ hs_gt := hs_gt_of (List.mem_of_getElem? (i := 114) (by decide +kernel)) rfl
theorem tw_115 : (Cond.fieldLink "HireShed$Tool" 30 "HireShed$Tool" "value" "I") ∈ hs_gt := hs_gt_of (List.mem_of_getElem? (i := 115) (by decide +kernel)) rfl
theorem tw_116 : (Cond.fieldLink "HireShed$DeepPump" 23 "HireShed$DeepPump" "value" "I") ∈ hs_gt := hs_gt_of (List.mem_of_getElem? (i := 116) (by decide +kernel)) rfl
theorem tw_117 : (Cond.sameField "HireShed$DeepPump" "HireShed$Tool" "value" "I") ∈ hs_gt := hs_gt_of (List.mem_of_getElem? (i := 117) (by decide +kernel)) rfl
theorem tw_118 : (Cond.fieldLink "HireShed$Powered" 23 "HireShed$Powered" "value" "I") ∈ hs_gt := hs_gt_of (List.mem_of_getElem? (i := 118) (by decide +kernel)) rfl
theorem tw_119 : (Cond.sameField "HireShed$Powered" "HireShed$Tool" "value" "I") ∈ hs_gt := hs_gt_of (List.mem_of_getElem? (i := 119) (by decide +kernel)) rfl
theorem tw_120 : (Cond.fieldLink "HireShed$Tool" 9 "HireShed$Tool" "hours" "I") ∈ hs_gt := hs_gt_of (List.mem_of_getElem? (i := 120) (by decide +kernel)) rfl
theorem tw_121 : (Cond.fieldLink "HireShed$TreeSaw" 32 "HireShed$TreeSaw" "hours" "I") ∈ hs_gt := hs_gt_of (List.mem_of_getElem? (i := 121) (by decide +kernel)) rfl
theorem tw_122 : (Cond.sameField "HireShed$TreeSaw" "HireShed$Tool" "hours" "I") ∈ hs_gt := hs_gt_of (List.mem_of_getElem? (i := 122) (by decide +kernel)) rfl
theorem tw_123 : (Cond.fieldLink "HireShed" 122 "HireShed$Tool" "hours" "I") ∈ hs_gt := hs_gt_of (List.mem_of_getElem? (i := 123) (by decide +kernel)) rfl
theorem tw_124 : (Cond.fieldLink "HireShed$Tool" 15 "HireShed$Tool" "how" "I") ∈ hs_gt := hs_gt_of (List.mem_of_getElem? (i := 124) (by decide +kernel)) rfl
theorem tw_125 : (Cond.fieldLink "HireShed" 74 "HireShed$Tool" "how" "I") ∈ hs_gt := hs_gt_of (List.mem_of_getElem? (i := 125) (by decide +kernel)) rfl
theorem tw_126 : (Cond.fieldLink "HireShed$Tool" 18 "HireShed$Tool" "customer" "I") ∈ hs_gt := hs_gt_of (List.mem_of_getElem? (i := 126) (by decide +kernel)) rfl
theorem tw_127 : (Cond.fieldLink "HireShed" 106 "HireShed$Tool" "customer" "I") ∈ hs_gt := hs_gt_of (List.mem_of_getElem? (i := 127) (by decide +kernel)) rfl
theorem tw_128 : (Cond.fieldLink "HireShed$Tool" 21 "HireShed$Tool" "since" "I") ∈ hs_gt := hs_gt_of (List.mem_of_getElem? (i := 128) (by decide +kernel)) rfl
theorem tw_129 : (Cond.fieldLink "HireShed" 91 "HireShed$Tool" "since" "I") ∈ hs_gt := hs_gt_of (List.mem_of_getElem? (i := 129) (by decide +kernel)) rfl
theorem tw_130 : (Cond.laysFinal "HireShed$Powered" "HireShed$Tool" "trace" "LHireShed$Trace;") ∈ hs_gt := hs_gt_of (List.mem_of_getElem? (i := 130) (by decide +kernel)) rfl
theorem tw_131 : (Cond.soleField "HireShed$Tool" "trace") ∈ hs_gt := hs_gt_of (List.mem_of_getElem? (i := 131) (by decide +kernel)) rfl
theorem tw_132 : (Cond.laysFinal "HireShed$Powered" "HireShed$Tool" "kind" "I") ∈ hs_gt := hs_gt_of (List.mem_of_getElem? (i := 132) (by decide +kernel)) rfl
theorem tw_133 : (Cond.soleField "HireShed$Tool" "kind") ∈ hs_gt := hs_gt_of (List.mem_of_getElem? (i := 133) (by decide +kernel)) rfl
theorem tw_134 : (Cond.laysFinal "HireShed$Powered" "HireShed$Tool" "rate" "I") ∈ hs_gt := hs_gt_of (List.mem_of_getElem? (i := 134) (by decide +kernel)) rfl
theorem tw_135 : (Cond.soleField "HireShed$Tool" "rate") ∈ hs_gt := hs_gt_of (List.mem_of_getElem? (i := 135) (by decide +kernel)) rfl
theorem tw_136 : (Cond.laysFinal "HireShed$Powered" "HireShed$Tool" "value" "I") ∈ hs_gt := hs_gt_of (List.mem_of_getElem? (i := 136) (by decide +kernel)) rfl
theorem tw_137 : (Cond.soleField "HireShed$Tool" "value") ∈ hs_gt := hs_gt_of (List.mem_of_getElem? (i := 137) (by decide +kernel)) rfl
theorem tw_138 : (Cond.lays "HireShed$Powered" "HireShed$Tool" "hours" "I") ∈ hs_gt := hs_gt_of (List.mem_of_getElem? (i := 138) (by decide +kernel)) rfl
theorem tw_139 : (Cond.soleField "HireShed$Tool" "hours") ∈ hs_gt := hs_gt_of (List.mem_of_getElem? (i := 139) (by decide +kernel)) rfl
theorem tw_140 : (Cond.lays "HireShed$Powered" "HireShed$Tool" "how" "I") ∈ hs_gt := hs_gt_of (List.mem_of_getElem? (i := 140) (by decide +kernel)) rfl
theorem tw_141 : (Cond.soleField "HireShed$Tool" "how") ∈ hs_gt := hs_gt_of (List.mem_of_getElem? (i := 141) (by decide +kernel)) rfl
theorem tw_142 : (Cond.lays "HireShed$Powered" "HireShed$Tool" "customer" "I") ∈ hs_gt := hs_gt_of (List.mem_of_getElem? (i := 142) (by decide +kernel)) rfl
theorem tw_143 : (Cond.soleField "HireShed$Tool" "customer") ∈ hs_gt := hs_gt_of (List.mem_of_getElem? (i := 143) (by decide +kernel)) rfl
theorem tw_144 : (Cond.lays "HireShed$Powered" "HireShed$Tool" "since" "I") ∈ hs_gt := hs_gt_of (List.mem_of_getElem? (i := 144) (by decide +kernel)) rfl
theorem tw_145 : (Cond.soleField "HireShed$Tool" "since") ∈ hs_gt := hs_gt_of (List.mem_of_getElem? (i := 145) (by decide +kernel)) rfl
theorem tw_146 : (Cond.superclass "HireShed$Powered" "HireShed$Tool") ∈ hs_gt := hs_gt_of (List.mem_of_getElem? (i := 146) (by decide +kernel)) rfl
theorem tw_147 : (Cond.classLink "HireShed" 140 "HireShed$Saw") ∈ hs_gt := hs_gt_of (List.mem_of_getElem? (i := 147) (by decide +kernel)) rfl
theorem tw_148 : (Cond.instantiable "HireShed$Saw" 8) ∈ hs_gt := hs_gt_of (List.mem_of_getElem? (i := 148) (by decide +kernel)) rfl
theorem tw_149 : (Cond.methodLink "HireShed" 142 ⟨"HireShed$Saw", "<init>", "(IIILHireShed$Trace;)V"⟩) ∈ hs_gt := hs_gt_of (List.mem_of_getElem? (i := 149) (by decide +kernel)) rfl
theorem tw_150 : (Cond.instanceMethod ⟨"HireShed$Saw", "<init>", "(IIILHireShed$Trace;)V"⟩) ∈ hs_gt := hs_gt_of (List.mem_of_getElem? (i := 150) (by decide +kernel)) rfl
theorem tw_152 : (Cond.methodLink "HireShed$Saw" 1 ⟨"HireShed$Powered", "<init>", "(IIILHireShed$Trace;)V"⟩) ∈ hs_gt := hs_gt_of (List.mem_of_getElem? (i := 152) (by decide +kernel)) rfl
theorem tw_153 : (Cond.laysFinal "HireShed$Saw" "HireShed$Tool" "trace" "LHireShed$Trace;") ∈ hs_gt := hs_gt_of (List.mem_of_getElem? (i := 153) (by decide +kernel)) rfl
theorem tw_154 : (Cond.laysFinal "HireShed$Saw" "HireShed$Tool" "kind" "I") ∈ hs_gt := hs_gt_of (List.mem_of_getElem? (i := 154) (by decide +kernel)) rfl
theorem tw_155 : (Cond.laysFinal "HireShed$Saw" "HireShed$Tool" "rate" "I") ∈ hs_gt := hs_gt_of (List.mem_of_getElem? (i := 155) (by decide +kernel)) rfl
theorem tw_156 : (Cond.laysFinal "HireShed$Saw" "HireShed$Tool" "value" "I") ∈ hs_gt := hs_gt_of (List.mem_of_getElem? (i := 156) (by decide +kernel)) rfl
theorem tw_157 : (Cond.lays "HireShed$Saw" "HireShed$Tool" "hours" "I") ∈ hs_gt := hs_gt_of (List.mem_of_getElem? (i := 157) (by decide +kernel)) rfl
theorem tw_158 : (Cond.lays "HireShed$Saw" "HireShed$Tool" "how" "I") ∈ hs_gt := hs_gt_of (List.mem_of_getElem? (i := 158) (by decide +kernel)) rfl
theorem tw_159 : (Cond.lays "HireShed$Saw" "HireShed$Tool" "customer" "I") ∈ hs_gt := hs_gt_of (List.mem_of_getElem? (i := 159) (by decide +kernel)) rfl
theorem tw_160 : (Cond.lays "HireShed$Saw" "HireShed$Tool" "since" "I") ∈ hs_gt := hs_gt_of (List.mem_of_getElem? (i := 160) (by decide +kernel)) rfl
theorem tw_161 : (Cond.superclass "HireShed$Saw" "HireShed$Powered") ∈ hs_gt := hs_gt_of (List.mem_of_getElem? (i := 161) (by decide +kernel)) rfl
theorem tw_162 : (Cond.classLink "HireShed" 143 "HireShed$BenchSaw") ∈ hs_gt := hs_gt_of (List.mem_of_getElem? (i := 162) (by decide +kernel)) rfl
theorem tw_163 : (Cond.instantiable "HireShed$BenchSaw" 8) ∈ hs_gt := hs_gt_of (List.mem_of_getElem? (i := 163) (by decide +kernel)) rfl
theorem tw_164 : (Cond.methodLink "HireShed" 145 ⟨"HireShed$BenchSaw", "<init>", "(IIILHireShed$Trace;)V"⟩) ∈ hs_gt := hs_gt_of (List.mem_of_getElem? (i := 164) (by decide +kernel)) rfl
theorem tw_165 : (Cond.instanceMethod ⟨"HireShed$BenchSaw", "<init>", "(IIILHireShed$Trace;)V"⟩) ∈ hs_gt := hs_gt_of (List.mem_of_getElem? (i := 165) (by decide +kernel)) rfl
theorem tw_167 : (Cond.methodLink "HireShed$BenchSaw" 1 ⟨"HireShed$Saw", "<init>", "(IIILHireShed$Trace;)V"⟩) ∈ hs_gt := hs_gt_of (List.mem_of_getElem? (i := 167) (by decide +kernel)) rfl
theorem tw_168 : (Cond.laysFinal "HireShed$BenchSaw" "HireShed$Tool" "trace" "LHireShed$Trace;") ∈ hs_gt := hs_gt_of (List.mem_of_getElem? (i := 168) (by decide +kernel)) rfl
theorem tw_169 : (Cond.laysFinal "HireShed$BenchSaw" "HireShed$Tool" "kind" "I") ∈ hs_gt := hs_gt_of (List.mem_of_getElem? (i := 169) (by decide +kernel)) rfl
theorem tw_170 : (Cond.laysFinal "HireShed$BenchSaw" "HireShed$Tool" "rate" "I") ∈ hs_gt := hs_gt_of (List.mem_of_getElem? (i := 170) (by decide +kernel)) rfl
theorem tw_171 : (Cond.laysFinal "HireShed$BenchSaw" "HireShed$Tool" "value" "I") ∈ hs_gt := hs_gt_of (List.mem_of_getElem? (i := 171) (by decide +kernel)) rfl
theorem tw_172 : (Cond.lays "HireShed$BenchSaw" "HireShed$Tool" "hours" "I") ∈ hs_gt := hs_gt_of (List.mem_of_getElem? (i := 172) (by decide +kernel)) rfl
theorem tw_173 : (Cond.lays "HireShed$BenchSaw" "HireShed$Tool" "how" "I") ∈ hs_gt := hs_gt_of (List.mem_of_getElem? (i := 173) (by decide +kernel)) rfl
theorem tw_174 : (Cond.lays "HireShed$BenchSaw" "HireShed$Tool" "customer" "I") ∈ hs_gt := hs_gt_of (List.mem_of_getElem? (i := 174) (by decide +kernel)) rfl
theorem tw_175 : (Cond.lays "HireShed$BenchSaw" "HireShed$Tool" "since" "I") ∈ hs_gt := hs_gt_of (List.mem_of_getElem? (i := 175) (by decide +kernel)) rfl
theorem tw_176 : (Cond.superclass "HireShed$BenchSaw" "HireShed$Saw") ∈ hs_gt := hs_gt_of (List.mem_of_getElem? (i := 176) (by decide +kernel)) rfl
theorem tw_177 : (Cond.classLink "HireShed" 146 "HireShed$TreeSaw") ∈ hs_gt := hs_gt_of (List.mem_of_getElem? (i := 177) (by decide +kernel)) rfl
theorem tw_178 : (Cond.instantiable "HireShed$TreeSaw" 8) ∈ hs_gt := hs_gt_of (List.mem_of_getElem? (i := 178) (by decide +kernel)) rfl
theorem tw_179 : (Cond.methodLink "HireShed" 148 ⟨"HireShed$TreeSaw", "<init>", "(IIILHireShed$Trace;)V"⟩) ∈ hs_gt := hs_gt_of (List.mem_of_getElem? (i := 179) (by decide +kernel)) rfl
theorem tw_180 : (Cond.instanceMethod ⟨"HireShed$TreeSaw", "<init>", "(IIILHireShed$Trace;)V"⟩) ∈ hs_gt := hs_gt_of (List.mem_of_getElem? (i := 180) (by decide +kernel)) rfl
theorem tw_182 : (Cond.methodLink "HireShed$TreeSaw" 1 ⟨"HireShed$BenchSaw", "<init>", "(IIILHireShed$Trace;)V"⟩) ∈ hs_gt := hs_gt_of (List.mem_of_getElem? (i := 182) (by decide +kernel)) rfl
theorem tw_183 : (Cond.laysFinal "HireShed$TreeSaw" "HireShed$Tool" "trace" "LHireShed$Trace;") ∈ hs_gt := hs_gt_of (List.mem_of_getElem? (i := 183) (by decide +kernel)) rfl
theorem tw_184 : (Cond.laysFinal "HireShed$TreeSaw" "HireShed$Tool" "kind" "I") ∈ hs_gt := hs_gt_of (List.mem_of_getElem? (i := 184) (by decide +kernel)) rfl
theorem tw_185 : (Cond.laysFinal "HireShed$TreeSaw" "HireShed$Tool" "rate" "I") ∈ hs_gt := hs_gt_of (List.mem_of_getElem? (i := 185) (by decide +kernel)) rfl
theorem tw_186 : (Cond.laysFinal "HireShed$TreeSaw" "HireShed$Tool" "value" "I") ∈ hs_gt := hs_gt_of (List.mem_of_getElem? (i := 186) (by decide +kernel)) rfl
theorem tw_187 : (Cond.lays "HireShed$TreeSaw" "HireShed$Tool" "hours" "I") ∈ hs_gt := hs_gt_of (List.mem_of_getElem? (i := 187) (by decide +kernel)) rfl
theorem tw_188 : (Cond.lays "HireShed$TreeSaw" "HireShed$Tool" "how" "I") ∈ hs_gt := hs_gt_of (List.mem_of_getElem? (i := 188) (by decide +kernel)) rfl
theorem tw_189 : (Cond.lays "HireShed$TreeSaw" "HireShed$Tool" "customer" "I") ∈ hs_gt := hs_gt_of (List.mem_of_getElem? (i := 189) (by decide +kernel)) rfl
theorem tw_190 : (Cond.lays "HireShed$TreeSaw" "HireShed$Tool" "since" "I") ∈ hs_gt := hs_gt_of (List.mem_of_getElem? (i := 190) (by decide +kernel)) rfl
theorem tw_191 : (Cond.superclass "HireShed$TreeSaw" "HireShed$BenchSaw") ∈ hs_gt := hs_gt_of (List.mem_of_getElem? (i := 191) (by decide +kernel)) rfl
theorem tw_192 : (Cond.classLink "HireShed" 149 "HireShed$Pump") ∈ hs_gt := hs_gt_of (List.mem_of_getElem? (i := 192) (by decide +kernel)) rfl
theorem tw_193 : (Cond.instantiable "HireShed$Pump" 8) ∈ hs_gt := hs_gt_of (List.mem_of_getElem? (i := 193) (by decide +kernel)) rfl
theorem tw_194 : (Cond.methodLink "HireShed" 151 ⟨"HireShed$Pump", "<init>", "(IIILHireShed$Trace;)V"⟩) ∈ hs_gt := hs_gt_of (List.mem_of_getElem? (i := 194) (by decide +kernel)) rfl
theorem tw_195 : (Cond.instanceMethod ⟨"HireShed$Pump", "<init>", "(IIILHireShed$Trace;)V"⟩) ∈ hs_gt := hs_gt_of (List.mem_of_getElem? (i := 195) (by decide +kernel)) rfl
theorem tw_197 : (Cond.methodLink "HireShed$Pump" 1 ⟨"HireShed$Powered", "<init>", "(IIILHireShed$Trace;)V"⟩) ∈ hs_gt := hs_gt_of (List.mem_of_getElem? (i := 197) (by decide +kernel)) rfl
theorem tw_198 : (Cond.laysFinal "HireShed$Pump" "HireShed$Tool" "trace" "LHireShed$Trace;") ∈ hs_gt := hs_gt_of (List.mem_of_getElem? (i := 198) (by decide +kernel)) rfl
theorem tw_199 : (Cond.laysFinal "HireShed$Pump" "HireShed$Tool" "kind" "I") ∈ hs_gt := hs_gt_of (List.mem_of_getElem? (i := 199) (by decide +kernel)) rfl
theorem tw_200 : (Cond.laysFinal "HireShed$Pump" "HireShed$Tool" "rate" "I") ∈ hs_gt := hs_gt_of (List.mem_of_getElem? (i := 200) (by decide +kernel)) rfl
theorem tw_201 : (Cond.laysFinal "HireShed$Pump" "HireShed$Tool" "value" "I") ∈ hs_gt := hs_gt_of (List.mem_of_getElem? (i := 201) (by decide +kernel)) rfl
theorem tw_202 : (Cond.lays "HireShed$Pump" "HireShed$Tool" "hours" "I") ∈ hs_gt := hs_gt_of (List.mem_of_getElem? (i := 202) (by decide +kernel)) rfl
theorem tw_203 : (Cond.lays "HireShed$Pump" "HireShed$Tool" "how" "I") ∈ hs_gt := hs_gt_of (List.mem_of_getElem? (i := 203) (by decide +kernel)) rfl
theorem tw_204 : (Cond.lays "HireShed$Pump" "HireShed$Tool" "customer" "I") ∈ hs_gt := hs_gt_of (List.mem_of_getElem? (i := 204) (by decide +kernel)) rfl
theorem tw_205 : (Cond.lays "HireShed$Pump" "HireShed$Tool" "since" "I") ∈ hs_gt := hs_gt_of (List.mem_of_getElem? (i := 205) (by decide +kernel)) rfl
theorem tw_206 : (Cond.superclass "HireShed$Pump" "HireShed$Powered") ∈ hs_gt := hs_gt_of (List.mem_of_getElem? (i := 206) (by decide +kernel)) rfl
theorem tw_207 : (Cond.classLink "HireShed" 152 "HireShed$DeepPump") ∈ hs_gt := hs_gt_of (List.mem_of_getElem? (i := 207) (by decide +kernel)) rfl
theorem tw_208 : (Cond.instantiable "HireShed$DeepPump" 8) ∈ hs_gt := hs_gt_of (List.mem_of_getElem? (i := 208) (by decide +kernel)) rfl
theorem tw_209 : (Cond.methodLink "HireShed" 154 ⟨"HireShed$DeepPump", "<init>", "(IIILHireShed$Trace;)V"⟩) ∈ hs_gt := hs_gt_of (List.mem_of_getElem? (i := 209) (by decide +kernel)) rfl
theorem tw_210 : (Cond.instanceMethod ⟨"HireShed$DeepPump", "<init>", "(IIILHireShed$Trace;)V"⟩) ∈ hs_gt := hs_gt_of (List.mem_of_getElem? (i := 210) (by decide +kernel)) rfl
theorem tw_212 : (Cond.methodLink "HireShed$DeepPump" 1 ⟨"HireShed$Pump", "<init>", "(IIILHireShed$Trace;)V"⟩) ∈ hs_gt := hs_gt_of (List.mem_of_getElem? (i := 212) (by decide +kernel)) rfl
theorem tw_213 : (Cond.laysFinal "HireShed$DeepPump" "HireShed$Tool" "trace" "LHireShed$Trace;") ∈ hs_gt := hs_gt_of (List.mem_of_getElem? (i := 213) (by decide +kernel)) rfl
theorem tw_214 : (Cond.laysFinal "HireShed$DeepPump" "HireShed$Tool" "kind" "I") ∈ hs_gt := hs_gt_of (List.mem_of_getElem? (i := 214) (by decide +kernel)) rfl
theorem tw_215 : (Cond.laysFinal "HireShed$DeepPump" "HireShed$Tool" "rate" "I") ∈ hs_gt := hs_gt_of (List.mem_of_getElem? (i := 215) (by decide +kernel)) rfl
theorem tw_216 : (Cond.laysFinal "HireShed$DeepPump" "HireShed$Tool" "value" "I") ∈ hs_gt := hs_gt_of (List.mem_of_getElem? (i := 216) (by decide +kernel)) rfl
theorem tw_217 : (Cond.lays "HireShed$DeepPump" "HireShed$Tool" "hours" "I") ∈ hs_gt := hs_gt_of (List.mem_of_getElem? (i := 217) (by decide +kernel)) rfl
theorem tw_218 : (Cond.lays "HireShed$DeepPump" "HireShed$Tool" "how" "I") ∈ hs_gt := hs_gt_of (List.mem_of_getElem? (i := 218) (by decide +kernel)) rfl
theorem tw_219 : (Cond.lays "HireShed$DeepPump" "HireShed$Tool" "customer" "I") ∈ hs_gt := hs_gt_of (List.mem_of_getElem? (i := 219) (by decide +kernel)) rfl
theorem tw_220 : (Cond.lays "HireShed$DeepPump" "HireShed$Tool" "since" "I") ∈ hs_gt := hs_gt_of (List.mem_of_getElem? (i := 220) (by decide +kernel)) rfl
theorem tw_221 : (Cond.superclass "HireShed$DeepPump" "HireShed$Pump") ∈ hs_gt := hs_gt_of (List.mem_of_getElem? (i := 221) (by decide +kernel)) rfl
theorem tw_222 : (Cond.instantiable "HireShed$Tool" 8) ∈ hs_gt := hs_gt_of (List.mem_of_getElem? (i := 222) (by decide +kernel)) rfl
theorem tw_223 : (Cond.methodLink "HireShed" 155 ⟨"HireShed$Tool", "<init>", "(IIILHireShed$Trace;)V"⟩) ∈ hs_gt := hs_gt_of (List.mem_of_getElem? (i := 223) (by decide +kernel)) rfl
theorem tw_224 : (Cond.laysFinal "HireShed$Tool" "HireShed$Tool" "trace" "LHireShed$Trace;") ∈ hs_gt := hs_gt_of (List.mem_of_getElem? (i := 224) (by decide +kernel)) rfl
theorem tw_225 : (Cond.laysFinal "HireShed$Tool" "HireShed$Tool" "kind" "I") ∈ hs_gt := hs_gt_of (List.mem_of_getElem? (i := 225) (by decide +kernel)) rfl
theorem tw_226 : (Cond.laysFinal "HireShed$Tool" "HireShed$Tool" "rate" "I") ∈ hs_gt := hs_gt_of (List.mem_of_getElem? (i := 226) (by decide +kernel)) rfl
theorem tw_227 : (Cond.laysFinal "HireShed$Tool" "HireShed$Tool" "value" "I") ∈ hs_gt := hs_gt_of (List.mem_of_getElem? (i := 227) (by decide +kernel)) rfl
theorem tw_228 : (Cond.lays "HireShed$Tool" "HireShed$Tool" "hours" "I") ∈ hs_gt := hs_gt_of (List.mem_of_getElem? (i := 228) (by decide +kernel)) rfl
theorem tw_229 : (Cond.lays "HireShed$Tool" "HireShed$Tool" "how" "I") ∈ hs_gt := hs_gt_of (List.mem_of_getElem? (i := 229) (by decide +kernel)) rfl
theorem tw_230 : (Cond.lays "HireShed$Tool" "HireShed$Tool" "customer" "I") ∈ hs_gt := hs_gt_of (List.mem_of_getElem? (i := 230) (by decide +kernel)) rfl
theorem tw_231 : (Cond.lays "HireShed$Tool" "HireShed$Tool" "since" "I") ∈ hs_gt := hs_gt_of (List.mem_of_getElem? (i := 231) (by decide +kernel)) rfl
theorem tw_232 : (Cond.superclass "HireShed$Tool" "java/lang/Object") ∈ hs_gt := hs_gt_of (List.mem_of_getElem? (i := 232) (by decide +kernel)) rfl
theorem tw_233 : (Cond.methodLink "HireShedLaw" 18 ⟨"HireShed", "ask", "(III)I"⟩) ∈ hs_gt := hs_gt_of (List.mem_of_getElem? (i := 233) (by decide +kernel)) rfl
theorem tw_234 : (Cond.instanceMethod ⟨"HireShed", "ask", "(III)I"⟩) ∈ hs_gt := hs_gt_of (List.mem_of_getElem? (i := 234) (by decide +kernel)) rfl
theorem tw_235 : (Cond.selects "HireShed" ⟨"HireShed", "ask", "(III)I"⟩ ⟨"HireShed", "ask", "(III)I"⟩) ∈ hs_gt := hs_gt_of (List.mem_of_getElem? (i := 235) (by decide +kernel)) rfl
theorem tw_237 : (Cond.methodLink "HireShed" 48 ⟨"HireShed", "toolAt", "(I)LHireShed$Tool;"⟩) ∈ hs_gt := hs_gt_of (List.mem_of_getElem? (i := 237) (by decide +kernel)) rfl
theorem tw_238 : (Cond.privateMethod ⟨"HireShed", "toolAt", "(I)LHireShed$Tool;"⟩) ∈ lw_tbl := List.mem_of_getElem? (i := 238) (by decide +kernel)
theorem tw_239 : (Cond.instanceMethod ⟨"HireShed", "toolAt", "(I)LHireShed$Tool;"⟩) ∈ hs_gt := hs_gt_of (List.mem_of_getElem? (i := 239) (by decide +kernel)) rfl
theorem tw_241 : (Cond.methodLink "HireShed" 52 ⟨"HireShed$Trace", "begin", "()V"⟩) ∈ hs_gt := hs_gt_of (List.mem_of_getElem? (i := 241) (by decide +kernel)) rfl
theorem tw_242 : (Cond.instanceMethod ⟨"HireShed$Trace", "begin", "()V"⟩) ∈ hs_gt := hs_gt_of (List.mem_of_getElem? (i := 242) (by decide +kernel)) rfl
theorem tw_243 : (Cond.selects "HireShed$Trace" ⟨"HireShed$Trace", "begin", "()V"⟩ ⟨"HireShed$Trace", "begin", "()V"⟩) ∈ hs_gt := hs_gt_of (List.mem_of_getElem? (i := 243) (by decide +kernel)) rfl
theorem tw_245 : (Cond.methodLink "HireShed" 55 ⟨"HireShed", "hasAnswer", "(LHireShed$Tool;I)Z"⟩) ∈ hs_gt := hs_gt_of (List.mem_of_getElem? (i := 245) (by decide +kernel)) rfl
theorem tw_246 : (Cond.static ⟨"HireShed", "hasAnswer", "(LHireShed$Tool;I)Z"⟩) ∈ hs_gt := hs_gt_of (List.mem_of_getElem? (i := 246) (by decide +kernel)) rfl
theorem tw_248 : (Cond.methodLink "HireShed" 156 ⟨"HireShed$Tool", "hasDeposit", "()Z"⟩) ∈ hs_gt := hs_gt_of (List.mem_of_getElem? (i := 248) (by decide +kernel)) rfl
theorem tw_249 : (Cond.instanceMethod ⟨"HireShed$Tool", "hasDeposit", "()Z"⟩) ∈ hs_gt := hs_gt_of (List.mem_of_getElem? (i := 249) (by decide +kernel)) rfl
theorem tw_250 : (Cond.selects "HireShed$Tool" ⟨"HireShed$Tool", "hasDeposit", "()Z"⟩ ⟨"HireShed$Tool", "hasDeposit", "()Z"⟩) ∈ hs_gt := hs_gt_of (List.mem_of_getElem? (i := 250) (by decide +kernel)) rfl
theorem tw_251 : (Cond.sameMethod "HireShed$Tool" "HireShed$Tool" "hasDeposit" "()Z") ∈ hs_gt := hs_gt_of (List.mem_of_getElem? (i := 251) (by decide +kernel)) rfl
theorem tw_252 : (Cond.selects "HireShed$BenchSaw" ⟨"HireShed$Tool", "hasDeposit", "()Z"⟩ ⟨"HireShed$Powered", "hasDeposit", "()Z"⟩) ∈ hs_gt := hs_gt_of (List.mem_of_getElem? (i := 252) (by decide +kernel)) rfl
theorem tw_253 : (Cond.instanceMethod ⟨"HireShed$Powered", "hasDeposit", "()Z"⟩) ∈ hs_gt := hs_gt_of (List.mem_of_getElem? (i := 253) (by decide +kernel)) rfl
theorem tw_255 : (Cond.selects "HireShed$DeepPump" ⟨"HireShed$Tool", "hasDeposit", "()Z"⟩ ⟨"HireShed$Powered", "hasDeposit", "()Z"⟩) ∈ hs_gt := hs_gt_of (List.mem_of_getElem? (i := 255) (by decide +kernel)) rfl
theorem tw_256 : (Cond.selects "HireShed$Powered" ⟨"HireShed$Tool", "hasDeposit", "()Z"⟩ ⟨"HireShed$Powered", "hasDeposit", "()Z"⟩) ∈ hs_gt := hs_gt_of (List.mem_of_getElem? (i := 256) (by decide +kernel)) rfl
theorem tw_257 : (Cond.selects "HireShed$Pump" ⟨"HireShed$Tool", "hasDeposit", "()Z"⟩ ⟨"HireShed$Powered", "hasDeposit", "()Z"⟩) ∈ hs_gt := hs_gt_of (List.mem_of_getElem? (i := 257) (by decide +kernel)) rfl
theorem tw_258 : (Cond.selects "HireShed$Saw" ⟨"HireShed$Tool", "hasDeposit", "()Z"⟩ ⟨"HireShed$Powered", "hasDeposit", "()Z"⟩) ∈ hs_gt := hs_gt_of (List.mem_of_getElem? (i := 258) (by decide +kernel)) rfl
theorem tw_259 : (Cond.selects "HireShed$TreeSaw" ⟨"HireShed$Tool", "hasDeposit", "()Z"⟩ ⟨"HireShed$Powered", "hasDeposit", "()Z"⟩) ∈ hs_gt := hs_gt_of (List.mem_of_getElem? (i := 259) (by decide +kernel)) rfl
theorem tw_261 : (Cond.methodLink "HireShed" 125 ⟨"HireShed$Tool", "isInsured", "()Z"⟩) ∈ hs_gt := hs_gt_of (List.mem_of_getElem? (i := 261) (by decide +kernel)) rfl
theorem tw_262 : (Cond.instanceMethod ⟨"HireShed$Tool", "isInsured", "()Z"⟩) ∈ hs_gt := hs_gt_of (List.mem_of_getElem? (i := 262) (by decide +kernel)) rfl
theorem tw_263 : (Cond.selects "HireShed$Tool" ⟨"HireShed$Tool", "isInsured", "()Z"⟩ ⟨"HireShed$Tool", "isInsured", "()Z"⟩) ∈ hs_gt := hs_gt_of (List.mem_of_getElem? (i := 263) (by decide +kernel)) rfl
theorem tw_264 : (Cond.sameMethod "HireShed$Tool" "HireShed$Tool" "isInsured" "()Z") ∈ hs_gt := hs_gt_of (List.mem_of_getElem? (i := 264) (by decide +kernel)) rfl
theorem tw_265 : (Cond.selects "HireShed$BenchSaw" ⟨"HireShed$Tool", "isInsured", "()Z"⟩ ⟨"HireShed$Saw", "isInsured", "()Z"⟩) ∈ hs_gt := hs_gt_of (List.mem_of_getElem? (i := 265) (by decide +kernel)) rfl
theorem tw_266 : (Cond.instanceMethod ⟨"HireShed$Saw", "isInsured", "()Z"⟩) ∈ hs_gt := hs_gt_of (List.mem_of_getElem? (i := 266) (by decide +kernel)) rfl
theorem tw_268 : (Cond.selects "HireShed$DeepPump" ⟨"HireShed$Tool", "isInsured", "()Z"⟩ ⟨"HireShed$Tool", "isInsured", "()Z"⟩) ∈ hs_gt := hs_gt_of (List.mem_of_getElem? (i := 268) (by decide +kernel)) rfl
theorem tw_269 : (Cond.selects "HireShed$Powered" ⟨"HireShed$Tool", "isInsured", "()Z"⟩ ⟨"HireShed$Tool", "isInsured", "()Z"⟩) ∈ hs_gt := hs_gt_of (List.mem_of_getElem? (i := 269) (by decide +kernel)) rfl
theorem tw_270 : (Cond.selects "HireShed$Pump" ⟨"HireShed$Tool", "isInsured", "()Z"⟩ ⟨"HireShed$Tool", "isInsured", "()Z"⟩) ∈ hs_gt := hs_gt_of (List.mem_of_getElem? (i := 270) (by decide +kernel)) rfl
theorem tw_271 : (Cond.selects "HireShed$Saw" ⟨"HireShed$Tool", "isInsured", "()Z"⟩ ⟨"HireShed$Saw", "isInsured", "()Z"⟩) ∈ hs_gt := hs_gt_of (List.mem_of_getElem? (i := 271) (by decide +kernel)) rfl
theorem tw_272 : (Cond.selects "HireShed$TreeSaw" ⟨"HireShed$Tool", "isInsured", "()Z"⟩ ⟨"HireShed$Saw", "isInsured", "()Z"⟩) ∈ hs_gt := hs_gt_of (List.mem_of_getElem? (i := 272) (by decide +kernel)) rfl
theorem tw_274 : (Cond.methodLink "HireShed" 129 ⟨"HireShed$Tool", "isServiced", "()Z"⟩) ∈ hs_gt := hs_gt_of (List.mem_of_getElem? (i := 274) (by decide +kernel)) rfl
theorem tw_275 : (Cond.instanceMethod ⟨"HireShed$Tool", "isServiced", "()Z"⟩) ∈ hs_gt := hs_gt_of (List.mem_of_getElem? (i := 275) (by decide +kernel)) rfl
theorem tw_276 : (Cond.selects "HireShed$Tool" ⟨"HireShed$Tool", "isServiced", "()Z"⟩ ⟨"HireShed$Tool", "isServiced", "()Z"⟩) ∈ hs_gt := hs_gt_of (List.mem_of_getElem? (i := 276) (by decide +kernel)) rfl
theorem tw_277 : (Cond.sameMethod "HireShed$Tool" "HireShed$Tool" "isServiced" "()Z") ∈ hs_gt := hs_gt_of (List.mem_of_getElem? (i := 277) (by decide +kernel)) rfl
theorem tw_278 : (Cond.selects "HireShed$BenchSaw" ⟨"HireShed$Tool", "isServiced", "()Z"⟩ ⟨"HireShed$BenchSaw", "isServiced", "()Z"⟩) ∈ hs_gt := hs_gt_of (List.mem_of_getElem? (i := 278) (by decide +kernel)) rfl
theorem tw_279 : (Cond.instanceMethod ⟨"HireShed$BenchSaw", "isServiced", "()Z"⟩) ∈ hs_gt := hs_gt_of (List.mem_of_getElem? (i := 279) (by decide +kernel)) rfl
theorem tw_281 : (Cond.selects "HireShed$DeepPump" ⟨"HireShed$Tool", "isServiced", "()Z"⟩ ⟨"HireShed$Pump", "isServiced", "()Z"⟩) ∈ hs_gt := hs_gt_of (List.mem_of_getElem? (i := 281) (by decide +kernel)) rfl
theorem tw_282 : (Cond.instanceMethod ⟨"HireShed$Pump", "isServiced", "()Z"⟩) ∈ hs_gt := hs_gt_of (List.mem_of_getElem? (i := 282) (by decide +kernel)) rfl
theorem tw_284 : (Cond.selects "HireShed$Powered" ⟨"HireShed$Tool", "isServiced", "()Z"⟩ ⟨"HireShed$Tool", "isServiced", "()Z"⟩) ∈ hs_gt := hs_gt_of (List.mem_of_getElem? (i := 284) (by decide +kernel)) rfl
theorem tw_285 : (Cond.selects "HireShed$Pump" ⟨"HireShed$Tool", "isServiced", "()Z"⟩ ⟨"HireShed$Pump", "isServiced", "()Z"⟩) ∈ hs_gt := hs_gt_of (List.mem_of_getElem? (i := 285) (by decide +kernel)) rfl
theorem tw_286 : (Cond.selects "HireShed$Saw" ⟨"HireShed$Tool", "isServiced", "()Z"⟩ ⟨"HireShed$Tool", "isServiced", "()Z"⟩) ∈ hs_gt := hs_gt_of (List.mem_of_getElem? (i := 286) (by decide +kernel)) rfl
theorem tw_287 : (Cond.selects "HireShed$TreeSaw" ⟨"HireShed$Tool", "isServiced", "()Z"⟩ ⟨"HireShed$BenchSaw", "isServiced", "()Z"⟩) ∈ hs_gt := hs_gt_of (List.mem_of_getElem? (i := 287) (by decide +kernel)) rfl
theorem tw_289 : (Cond.methodLink "HireShed" 59 ⟨"HireShed", "answerOf", "(LHireShed$Tool;II)I"⟩) ∈ hs_gt := hs_gt_of (List.mem_of_getElem? (i := 289) (by decide +kernel)) rfl
theorem tw_290 : (Cond.static ⟨"HireShed", "answerOf", "(LHireShed$Tool;II)I"⟩) ∈ hs_gt := hs_gt_of (List.mem_of_getElem? (i := 290) (by decide +kernel)) rfl
theorem tw_292 : (Cond.methodLink "HireShed" 100 ⟨"HireShed$Tool", "charge", "(I)I"⟩) ∈ hs_gt := hs_gt_of (List.mem_of_getElem? (i := 292) (by decide +kernel)) rfl
theorem tw_293 : (Cond.instanceMethod ⟨"HireShed$Tool", "charge", "(I)I"⟩) ∈ hs_gt := hs_gt_of (List.mem_of_getElem? (i := 293) (by decide +kernel)) rfl
theorem tw_294 : (Cond.selects "HireShed$Tool" ⟨"HireShed$Tool", "charge", "(I)I"⟩ ⟨"HireShed$Tool", "charge", "(I)I"⟩) ∈ hs_gt := hs_gt_of (List.mem_of_getElem? (i := 294) (by decide +kernel)) rfl
theorem tw_295 : (Cond.sameMethod "HireShed$Tool" "HireShed$Tool" "charge" "(I)I") ∈ hs_gt := hs_gt_of (List.mem_of_getElem? (i := 295) (by decide +kernel)) rfl
theorem tw_296 : (Cond.selects "HireShed$BenchSaw" ⟨"HireShed$Tool", "charge", "(I)I"⟩ ⟨"HireShed$Saw", "charge", "(I)I"⟩) ∈ hs_gt := hs_gt_of (List.mem_of_getElem? (i := 296) (by decide +kernel)) rfl
theorem tw_297 : (Cond.instanceMethod ⟨"HireShed$Saw", "charge", "(I)I"⟩) ∈ hs_gt := hs_gt_of (List.mem_of_getElem? (i := 297) (by decide +kernel)) rfl
theorem tw_299 : (Cond.methodLink "HireShed$Saw" 13 ⟨"HireShed$Trace", "leave", "(I)V"⟩) ∈ hs_gt := hs_gt_of (List.mem_of_getElem? (i := 299) (by decide +kernel)) rfl
theorem tw_300 : (Cond.instanceMethod ⟨"HireShed$Trace", "leave", "(I)V"⟩) ∈ hs_gt := hs_gt_of (List.mem_of_getElem? (i := 300) (by decide +kernel)) rfl
theorem tw_301 : (Cond.selects "HireShed$Trace" ⟨"HireShed$Trace", "leave", "(I)V"⟩ ⟨"HireShed$Trace", "leave", "(I)V"⟩) ∈ hs_gt := hs_gt_of (List.mem_of_getElem? (i := 301) (by decide +kernel)) rfl
theorem tw_303 : (Cond.methodLink "HireShed$Saw" 19 ⟨"HireShed$Powered", "charge", "(I)I"⟩) ∈ hs_gt := hs_gt_of (List.mem_of_getElem? (i := 303) (by decide +kernel)) rfl
theorem tw_304 : (Cond.sameMethod "HireShed$Powered" "HireShed$Tool" "charge" "(I)I") ∈ hs_gt := hs_gt_of (List.mem_of_getElem? (i := 304) (by decide +kernel)) rfl
theorem tw_305 : (Cond.declares ⟨"HireShed$Tool", "charge", "(I)I"⟩) ∈ lw_tbl := List.mem_of_getElem? (i := 305) (by decide +kernel)
theorem tw_306 : (Cond.selects "HireShed$DeepPump" ⟨"HireShed$Tool", "charge", "(I)I"⟩ ⟨"HireShed$DeepPump", "charge", "(I)I"⟩) ∈ hs_gt := hs_gt_of (List.mem_of_getElem? (i := 306) (by decide +kernel)) rfl
theorem tw_307 : (Cond.instanceMethod ⟨"HireShed$DeepPump", "charge", "(I)I"⟩) ∈ hs_gt := hs_gt_of (List.mem_of_getElem? (i := 307) (by decide +kernel)) rfl
theorem tw_309 : (Cond.methodLink "HireShed$DeepPump" 13 ⟨"HireShed$Trace", "leave", "(I)V"⟩) ∈ hs_gt := hs_gt_of (List.mem_of_getElem? (i := 309) (by decide +kernel)) rfl
theorem tw_310 : (Cond.methodLink "HireShed$DeepPump" 19 ⟨"HireShed$Pump", "charge", "(I)I"⟩) ∈ hs_gt := hs_gt_of (List.mem_of_getElem? (i := 310) (by decide +kernel)) rfl
theorem tw_311 : (Cond.sameMethod "HireShed$Pump" "HireShed$Tool" "charge" "(I)I") ∈ hs_gt := hs_gt_of (List.mem_of_getElem? (i := 311) (by decide +kernel)) rfl
theorem tw_312 : (Cond.selects "HireShed$Powered" ⟨"HireShed$Tool", "charge", "(I)I"⟩ ⟨"HireShed$Tool", "charge", "(I)I"⟩) ∈ hs_gt := hs_gt_of (List.mem_of_getElem? (i := 312) (by decide +kernel)) rfl
theorem tw_313 : (Cond.selects "HireShed$Pump" ⟨"HireShed$Tool", "charge", "(I)I"⟩ ⟨"HireShed$Tool", "charge", "(I)I"⟩) ∈ hs_gt := hs_gt_of (List.mem_of_getElem? (i := 313) (by decide +kernel)) rfl
theorem tw_314 : (Cond.selects "HireShed$Saw" ⟨"HireShed$Tool", "charge", "(I)I"⟩ ⟨"HireShed$Saw", "charge", "(I)I"⟩) ∈ hs_gt := hs_gt_of (List.mem_of_getElem? (i := 314) (by decide +kernel)) rfl
theorem tw_315 : (Cond.selects "HireShed$TreeSaw" ⟨"HireShed$Tool", "charge", "(I)I"⟩ ⟨"HireShed$TreeSaw", "charge", "(I)I"⟩) ∈ hs_gt := hs_gt_of (List.mem_of_getElem? (i := 315) (by decide +kernel)) rfl
theorem tw_316 : (Cond.instanceMethod ⟨"HireShed$TreeSaw", "charge", "(I)I"⟩) ∈ hs_gt := hs_gt_of (List.mem_of_getElem? (i := 316) (by decide +kernel)) rfl
theorem tw_318 : (Cond.methodLink "HireShed$TreeSaw" 13 ⟨"HireShed$Trace", "leave", "(I)V"⟩) ∈ hs_gt := hs_gt_of (List.mem_of_getElem? (i := 318) (by decide +kernel)) rfl
theorem tw_319 : (Cond.methodLink "HireShed$TreeSaw" 19 ⟨"HireShed$BenchSaw", "charge", "(I)I"⟩) ∈ hs_gt := hs_gt_of (List.mem_of_getElem? (i := 319) (by decide +kernel)) rfl
theorem tw_320 : (Cond.sameMethod "HireShed$BenchSaw" "HireShed$Saw" "charge" "(I)I") ∈ hs_gt := hs_gt_of (List.mem_of_getElem? (i := 320) (by decide +kernel)) rfl
theorem tw_321 : (Cond.declares ⟨"HireShed$Saw", "charge", "(I)I"⟩) ∈ lw_tbl := List.mem_of_getElem? (i := 321) (by decide +kernel)
theorem tw_322 : (Cond.methodLink "HireShed$TreeSaw" 23 ⟨"java/lang/Math", "max", "(II)I"⟩) ∈ hs_gt := hs_gt_of (List.mem_of_getElem? (i := 322) (by decide +kernel)) rfl
theorem tw_323 : (Cond.static ⟨"java/lang/Math", "max", "(II)I"⟩) ∈ hs_gt := hs_gt_of (List.mem_of_getElem? (i := 323) (by decide +kernel)) rfl
theorem tw_326 : (Cond.methodLink "HireShed$Tool" 37 ⟨"HireShed$Trace", "leave", "(I)V"⟩) ∈ hs_gt := hs_gt_of (List.mem_of_getElem? (i := 326) (by decide +kernel)) rfl
theorem tw_327 : (Cond.methodLink "HireShed" 159 ⟨"HireShed$Tool", "wear", "(I)I"⟩) ∈ hs_gt := hs_gt_of (List.mem_of_getElem? (i := 327) (by decide +kernel)) rfl
theorem tw_328 : (Cond.instanceMethod ⟨"HireShed$Tool", "wear", "(I)I"⟩) ∈ hs_gt := hs_gt_of (List.mem_of_getElem? (i := 328) (by decide +kernel)) rfl
theorem tw_329 : (Cond.selects "HireShed$Tool" ⟨"HireShed$Tool", "wear", "(I)I"⟩ ⟨"HireShed$Tool", "wear", "(I)I"⟩) ∈ hs_gt := hs_gt_of (List.mem_of_getElem? (i := 329) (by decide +kernel)) rfl
theorem tw_330 : (Cond.sameMethod "HireShed$Tool" "HireShed$Tool" "wear" "(I)I") ∈ hs_gt := hs_gt_of (List.mem_of_getElem? (i := 330) (by decide +kernel)) rfl
theorem tw_331 : (Cond.selects "HireShed$BenchSaw" ⟨"HireShed$Tool", "wear", "(I)I"⟩ ⟨"HireShed$Tool", "wear", "(I)I"⟩) ∈ hs_gt := hs_gt_of (List.mem_of_getElem? (i := 331) (by decide +kernel)) rfl
theorem tw_332 : (Cond.selects "HireShed$DeepPump" ⟨"HireShed$Tool", "wear", "(I)I"⟩ ⟨"HireShed$Pump", "wear", "(I)I"⟩) ∈ hs_gt := hs_gt_of (List.mem_of_getElem? (i := 332) (by decide +kernel)) rfl
theorem tw_333 : (Cond.instanceMethod ⟨"HireShed$Pump", "wear", "(I)I"⟩) ∈ hs_gt := hs_gt_of (List.mem_of_getElem? (i := 333) (by decide +kernel)) rfl
theorem tw_335 : (Cond.methodLink "HireShed$Pump" 13 ⟨"HireShed$Trace", "leave", "(I)V"⟩) ∈ hs_gt := hs_gt_of (List.mem_of_getElem? (i := 335) (by decide +kernel)) rfl
theorem tw_336 : (Cond.methodLink "HireShed$Pump" 19 ⟨"HireShed$Powered", "wear", "(I)I"⟩) ∈ hs_gt := hs_gt_of (List.mem_of_getElem? (i := 336) (by decide +kernel)) rfl
theorem tw_337 : (Cond.sameMethod "HireShed$Powered" "HireShed$Tool" "wear" "(I)I") ∈ hs_gt := hs_gt_of (List.mem_of_getElem? (i := 337) (by decide +kernel)) rfl
theorem tw_338 : (Cond.declares ⟨"HireShed$Tool", "wear", "(I)I"⟩) ∈ lw_tbl := List.mem_of_getElem? (i := 338) (by decide +kernel)
theorem tw_339 : (Cond.selects "HireShed$Powered" ⟨"HireShed$Tool", "wear", "(I)I"⟩ ⟨"HireShed$Tool", "wear", "(I)I"⟩) ∈ hs_gt := hs_gt_of (List.mem_of_getElem? (i := 339) (by decide +kernel)) rfl
theorem tw_340 : (Cond.selects "HireShed$Pump" ⟨"HireShed$Tool", "wear", "(I)I"⟩ ⟨"HireShed$Pump", "wear", "(I)I"⟩) ∈ hs_gt := hs_gt_of (List.mem_of_getElem? (i := 340) (by decide +kernel)) rfl
theorem tw_341 : (Cond.selects "HireShed$Saw" ⟨"HireShed$Tool", "wear", "(I)I"⟩ ⟨"HireShed$Tool", "wear", "(I)I"⟩) ∈ hs_gt := hs_gt_of (List.mem_of_getElem? (i := 341) (by decide +kernel)) rfl
theorem tw_342 : (Cond.selects "HireShed$TreeSaw" ⟨"HireShed$Tool", "wear", "(I)I"⟩ ⟨"HireShed$TreeSaw", "wear", "(I)I"⟩) ∈ hs_gt := hs_gt_of (List.mem_of_getElem? (i := 342) (by decide +kernel)) rfl
theorem tw_343 : (Cond.instanceMethod ⟨"HireShed$TreeSaw", "wear", "(I)I"⟩) ∈ hs_gt := hs_gt_of (List.mem_of_getElem? (i := 343) (by decide +kernel)) rfl
theorem tw_345 : (Cond.methodLink "HireShed$TreeSaw" 29 ⟨"HireShed$BenchSaw", "wear", "(I)I"⟩) ∈ hs_gt := hs_gt_of (List.mem_of_getElem? (i := 345) (by decide +kernel)) rfl
theorem tw_346 : (Cond.sameMethod "HireShed$BenchSaw" "HireShed$Tool" "wear" "(I)I") ∈ hs_gt := hs_gt_of (List.mem_of_getElem? (i := 346) (by decide +kernel)) rfl
theorem tw_348 : (Cond.methodLink "HireShed" 113 ⟨"HireShed$Tool", "check", "()I"⟩) ∈ hs_gt := hs_gt_of (List.mem_of_getElem? (i := 348) (by decide +kernel)) rfl
theorem tw_349 : (Cond.instanceMethod ⟨"HireShed$Tool", "check", "()I"⟩) ∈ hs_gt := hs_gt_of (List.mem_of_getElem? (i := 349) (by decide +kernel)) rfl
theorem tw_350 : (Cond.selects "HireShed$Tool" ⟨"HireShed$Tool", "check", "()I"⟩ ⟨"HireShed$Tool", "check", "()I"⟩) ∈ hs_gt := hs_gt_of (List.mem_of_getElem? (i := 350) (by decide +kernel)) rfl
theorem tw_351 : (Cond.sameMethod "HireShed$Tool" "HireShed$Tool" "check" "()I") ∈ hs_gt := hs_gt_of (List.mem_of_getElem? (i := 351) (by decide +kernel)) rfl
theorem tw_352 : (Cond.selects "HireShed$BenchSaw" ⟨"HireShed$Tool", "check", "()I"⟩ ⟨"HireShed$BenchSaw", "check", "()I"⟩) ∈ hs_gt := hs_gt_of (List.mem_of_getElem? (i := 352) (by decide +kernel)) rfl
theorem tw_353 : (Cond.instanceMethod ⟨"HireShed$BenchSaw", "check", "()I"⟩) ∈ hs_gt := hs_gt_of (List.mem_of_getElem? (i := 353) (by decide +kernel)) rfl
theorem tw_355 : (Cond.methodLink "HireShed$BenchSaw" 13 ⟨"HireShed$Trace", "leave", "(I)V"⟩) ∈ hs_gt := hs_gt_of (List.mem_of_getElem? (i := 355) (by decide +kernel)) rfl
theorem tw_356 : (Cond.methodLink "HireShed$BenchSaw" 19 ⟨"HireShed$Saw", "check", "()I"⟩) ∈ hs_gt := hs_gt_of (List.mem_of_getElem? (i := 356) (by decide +kernel)) rfl
theorem tw_357 : (Cond.sameMethod "HireShed$Saw" "HireShed$Powered" "check" "()I") ∈ hs_gt := hs_gt_of (List.mem_of_getElem? (i := 357) (by decide +kernel)) rfl
theorem tw_358 : (Cond.declares ⟨"HireShed$Powered", "check", "()I"⟩) ∈ lw_tbl := List.mem_of_getElem? (i := 358) (by decide +kernel)
theorem tw_359 : (Cond.instanceMethod ⟨"HireShed$Powered", "check", "()I"⟩) ∈ hs_gt := hs_gt_of (List.mem_of_getElem? (i := 359) (by decide +kernel)) rfl
theorem tw_361 : (Cond.methodLink "HireShed$Powered" 13 ⟨"HireShed$Trace", "leave", "(I)V"⟩) ∈ hs_gt := hs_gt_of (List.mem_of_getElem? (i := 361) (by decide +kernel)) rfl
theorem tw_362 : (Cond.methodLink "HireShed$Powered" 19 ⟨"HireShed$Tool", "check", "()I"⟩) ∈ hs_gt := hs_gt_of (List.mem_of_getElem? (i := 362) (by decide +kernel)) rfl
theorem tw_363 : (Cond.selects "HireShed$DeepPump" ⟨"HireShed$Tool", "check", "()I"⟩ ⟨"HireShed$DeepPump", "check", "()I"⟩) ∈ hs_gt := hs_gt_of (List.mem_of_getElem? (i := 363) (by decide +kernel)) rfl
theorem tw_364 : (Cond.instanceMethod ⟨"HireShed$DeepPump", "check", "()I"⟩) ∈ hs_gt := hs_gt_of (List.mem_of_getElem? (i := 364) (by decide +kernel)) rfl
theorem tw_366 : (Cond.methodLink "HireShed$DeepPump" 27 ⟨"HireShed$Pump", "check", "()I"⟩) ∈ hs_gt := hs_gt_of (List.mem_of_getElem? (i := 366) (by decide +kernel)) rfl
theorem tw_367 : (Cond.sameMethod "HireShed$Pump" "HireShed$Powered" "check" "()I") ∈ hs_gt := hs_gt_of (List.mem_of_getElem? (i := 367) (by decide +kernel)) rfl
theorem tw_368 : (Cond.selects "HireShed$Powered" ⟨"HireShed$Tool", "check", "()I"⟩ ⟨"HireShed$Powered", "check", "()I"⟩) ∈ hs_gt := hs_gt_of (List.mem_of_getElem? (i := 368) (by decide +kernel)) rfl
theorem tw_369 : (Cond.selects "HireShed$Pump" ⟨"HireShed$Tool", "check", "()I"⟩ ⟨"HireShed$Powered", "check", "()I"⟩) ∈ hs_gt := hs_gt_of (List.mem_of_getElem? (i := 369) (by decide +kernel)) rfl
theorem tw_370 : (Cond.selects "HireShed$Saw" ⟨"HireShed$Tool", "check", "()I"⟩ ⟨"HireShed$Powered", "check", "()I"⟩) ∈ hs_gt := hs_gt_of (List.mem_of_getElem? (i := 370) (by decide +kernel)) rfl
theorem tw_371 : (Cond.selects "HireShed$TreeSaw" ⟨"HireShed$Tool", "check", "()I"⟩ ⟨"HireShed$BenchSaw", "check", "()I"⟩) ∈ hs_gt := hs_gt_of (List.mem_of_getElem? (i := 371) (by decide +kernel)) rfl
theorem tw_373 : (Cond.methodLink "HireShed" 80 ⟨"HireShed$Tool", "deposit", "()I"⟩) ∈ hs_gt := hs_gt_of (List.mem_of_getElem? (i := 373) (by decide +kernel)) rfl
theorem tw_374 : (Cond.instanceMethod ⟨"HireShed$Tool", "deposit", "()I"⟩) ∈ hs_gt := hs_gt_of (List.mem_of_getElem? (i := 374) (by decide +kernel)) rfl
theorem tw_375 : (Cond.selects "HireShed$Tool" ⟨"HireShed$Tool", "deposit", "()I"⟩ ⟨"HireShed$Tool", "deposit", "()I"⟩) ∈ hs_gt := hs_gt_of (List.mem_of_getElem? (i := 375) (by decide +kernel)) rfl
theorem tw_376 : (Cond.sameMethod "HireShed$Tool" "HireShed$Tool" "deposit" "()I") ∈ hs_gt := hs_gt_of (List.mem_of_getElem? (i := 376) (by decide +kernel)) rfl
theorem tw_377 : (Cond.selects "HireShed$BenchSaw" ⟨"HireShed$Tool", "deposit", "()I"⟩ ⟨"HireShed$Powered", "deposit", "()I"⟩) ∈ hs_gt := hs_gt_of (List.mem_of_getElem? (i := 377) (by decide +kernel)) rfl
theorem tw_378 : (Cond.instanceMethod ⟨"HireShed$Powered", "deposit", "()I"⟩) ∈ hs_gt := hs_gt_of (List.mem_of_getElem? (i := 378) (by decide +kernel)) rfl
theorem tw_380 : (Cond.selects "HireShed$DeepPump" ⟨"HireShed$Tool", "deposit", "()I"⟩ ⟨"HireShed$Powered", "deposit", "()I"⟩) ∈ hs_gt := hs_gt_of (List.mem_of_getElem? (i := 380) (by decide +kernel)) rfl
theorem tw_381 : (Cond.selects "HireShed$Powered" ⟨"HireShed$Tool", "deposit", "()I"⟩ ⟨"HireShed$Powered", "deposit", "()I"⟩) ∈ hs_gt := hs_gt_of (List.mem_of_getElem? (i := 381) (by decide +kernel)) rfl
theorem tw_382 : (Cond.selects "HireShed$Pump" ⟨"HireShed$Tool", "deposit", "()I"⟩ ⟨"HireShed$Powered", "deposit", "()I"⟩) ∈ hs_gt := hs_gt_of (List.mem_of_getElem? (i := 382) (by decide +kernel)) rfl
theorem tw_383 : (Cond.selects "HireShed$Saw" ⟨"HireShed$Tool", "deposit", "()I"⟩ ⟨"HireShed$Powered", "deposit", "()I"⟩) ∈ hs_gt := hs_gt_of (List.mem_of_getElem? (i := 383) (by decide +kernel)) rfl
theorem tw_384 : (Cond.selects "HireShed$TreeSaw" ⟨"HireShed$Tool", "deposit", "()I"⟩ ⟨"HireShed$TreeSaw", "deposit", "()I"⟩) ∈ hs_gt := hs_gt_of (List.mem_of_getElem? (i := 384) (by decide +kernel)) rfl
theorem tw_385 : (Cond.instanceMethod ⟨"HireShed$TreeSaw", "deposit", "()I"⟩) ∈ hs_gt := hs_gt_of (List.mem_of_getElem? (i := 385) (by decide +kernel)) rfl
theorem tw_387 : (Cond.methodLink "HireShed$TreeSaw" 36 ⟨"HireShed$BenchSaw", "deposit", "()I"⟩) ∈ hs_gt := hs_gt_of (List.mem_of_getElem? (i := 387) (by decide +kernel)) rfl
