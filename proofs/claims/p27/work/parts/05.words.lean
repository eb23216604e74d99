theorem tw_0 : (Jvm.Cond.laysFinal "TurningTown$Ground" "TurningTown$Ground" "worth" "[I") ∈ TT := tt_in (in_1 (List.mem_of_getElem? (i := 55) rfl)) rfl
theorem tw_1 : (Jvm.Cond.laysFinal "TurningTown$Ground" "TurningTown$Ground" "liked" "[I") ∈ TT := tt_in (in_1 (List.mem_of_getElem? (i := 57) rfl)) rfl
theorem tw_2 : (Jvm.Cond.lays "TurningTown$Ground" "TurningTown$Ground" "houses" "I") ∈ TT := tt_in (in_1 (List.mem_of_getElem? (i := 59) rfl)) rfl
theorem tw_3 : (Jvm.Cond.laysFinal "TurningTown$Guess" "TurningTown$Guess" "track" "[[I") ∈ TT := tt_in (in_1 (List.mem_of_getElem? (i := 222) rfl)) rfl
theorem tw_4 : (Jvm.Cond.laysFinal "TurningTown$Guess" "TurningTown$Guess" "town" "LTurningTown$Town;") ∈ TT := tt_in (in_1 (List.mem_of_getElem? (i := 224) rfl)) rfl
theorem tw_5 : (Jvm.Cond.laysFinal "TurningTown$Notes" "TurningTown$Notes" "house" "[I") ∈ TT := tt_in (in_1 (List.mem_of_getElem? (i := 131) rfl)) rfl
theorem tw_6 : (Jvm.Cond.laysFinal "TurningTown$Notes" "TurningTown$Notes" "plot" "[I") ∈ TT := tt_in (in_1 (List.mem_of_getElem? (i := 133) rfl)) rfl
theorem tw_7 : (Jvm.Cond.laysFinal "TurningTown$Notes" "TurningTown$Notes" "night" "[I") ∈ TT := tt_in (in_1 (List.mem_of_getElem? (i := 135) rfl)) rfl
theorem tw_8 : (Jvm.Cond.lays "TurningTown$Notes" "TurningTown$Notes" "size" "I") ∈ TT := tt_in (in_1 (List.mem_of_getElem? (i := 137) rfl)) rfl
theorem tw_9 : (Jvm.Cond.laysFinal "TurningTown$Page" "TurningTown$Page" "letters" "[I") ∈ TT := tt_in (in_1 (List.mem_of_getElem? (i := 36) rfl)) rfl
theorem tw_10 : (Jvm.Cond.lays "TurningTown$Page" "TurningTown$Page" "size" "I") ∈ TT := tt_in (in_1 (List.mem_of_getElem? (i := 38) rfl)) rfl
theorem tw_11 : (Jvm.Cond.laysFinal "TurningTown$Plan" "TurningTown$Plan" "best" "[I") ∈ TT := tt_in (in_1 (List.mem_of_getElem? (i := 201) rfl)) rfl
theorem tw_12 : (Jvm.Cond.laysFinal "TurningTown$Plan" "TurningTown$Plan" "trial" "[I") ∈ TT := tt_in (in_1 (List.mem_of_getElem? (i := 203) rfl)) rfl
theorem tw_13 : (Jvm.Cond.laysFinal "TurningTown$Plan" "TurningTown$Plan" "town" "LTurningTown$Town;") ∈ TT := tt_in (in_1 (List.mem_of_getElem? (i := 205) rfl)) rfl
theorem tw_14 : (Jvm.Cond.lays "TurningTown$Plan" "TurningTown$Plan" "most" "I") ∈ TT := tt_in (in_1 (List.mem_of_getElem? (i := 207) rfl)) rfl
theorem tw_15 : (Jvm.Cond.laysFinal "TurningTown$Story" "TurningTown$Story" "town" "LTurningTown$Town;") ∈ TT := tt_in (in_1 (List.mem_of_getElem? (i := 152) rfl)) rfl
theorem tw_16 : (Jvm.Cond.laysFinal "TurningTown$Story" "TurningTown$Story" "had" "[I") ∈ TT := tt_in (in_1 (List.mem_of_getElem? (i := 154) rfl)) rfl
theorem tw_17 : (Jvm.Cond.laysFinal "TurningTown$Story" "TurningTown$Story" "wishes" "LTurningTown$Notes;") ∈ TT := tt_in (in_1 (List.mem_of_getElem? (i := 156) rfl)) rfl
theorem tw_18 : (Jvm.Cond.laysFinal "TurningTown$Story" "TurningTown$Story" "seen" "LTurningTown$Notes;") ∈ TT := tt_in (in_1 (List.mem_of_getElem? (i := 158) rfl)) rfl
theorem tw_19 : (Jvm.Cond.lays "TurningTown$Story" "TurningTown$Story" "nights" "I") ∈ TT := tt_in (in_1 (List.mem_of_getElem? (i := 160) rfl)) rfl
theorem tw_20 : (Jvm.Cond.laysFinal "TurningTown$Town" "TurningTown$Town" "kindOf" "[I") ∈ TT := tt_in (in_1 (List.mem_of_getElem? (i := 97) rfl)) rfl
theorem tw_21 : (Jvm.Cond.laysFinal "TurningTown$Town" "TurningTown$Town" "plotOf" "[I") ∈ TT := tt_in (in_1 (List.mem_of_getElem? (i := 99) rfl)) rfl
theorem tw_22 : (Jvm.Cond.laysFinal "TurningTown$Town" "TurningTown$Town" "row" "[I") ∈ TT := tt_in (in_1 (List.mem_of_getElem? (i := 101) rfl)) rfl
theorem tw_23 : (Jvm.Cond.laysFinal "TurningTown$Town" "TurningTown$Town" "standsOn" "[I") ∈ TT := tt_in (in_1 (List.mem_of_getElem? (i := 103) rfl)) rfl
theorem tw_24 : (Jvm.Cond.lays "TurningTown$Town" "TurningTown$Town" "houses" "I") ∈ TT := tt_in (in_1 (List.mem_of_getElem? (i := 105) rfl)) rfl
theorem tw_25 : (Jvm.Cond.lays "TurningTown$Town" "TurningTown$Town" "front" "I") ∈ TT := tt_in (in_1 (List.mem_of_getElem? (i := 107) rfl)) rfl
theorem tw_26 : (Jvm.Cond.lays "TurningTown$Town" "TurningTown$Town" "downFor" "I") ∈ TT := tt_in (in_1 (List.mem_of_getElem? (i := 109) rfl)) rfl
theorem tw_27 : (Jvm.Cond.laysFinal "TurningTown$Trade" "TurningTown$Trade" "gets" "[I") ∈ TT := tt_in (in_1 (List.mem_of_getElem? (i := 177) rfl)) rfl
theorem tw_28 : (Jvm.Cond.laysFinal "TurningTown$Trade" "TurningTown$Trade" "pointsTo" "[I") ∈ TT := tt_in (in_1 (List.mem_of_getElem? (i := 179) rfl)) rfl
theorem tw_29 : (Jvm.Cond.laysFinal "TurningTown$Trade" "TurningTown$Trade" "isLeft" "[Z") ∈ TT := tt_in (in_1 (List.mem_of_getElem? (i := 181) rfl)) rfl
theorem tw_30 : (Jvm.Cond.lays "TurningTown$Trade" "TurningTown$Trade" "rings" "I") ∈ TT := tt_in (in_1 (List.mem_of_getElem? (i := 183) rfl)) rfl
theorem tw_31 : (Jvm.Cond.laysFinal "TurningTown" "TurningTown" "page" "LTurningTown$Page;") ∈ TT := tt_in (in_1 (List.mem_of_getElem? (i := 238) rfl)) rfl
theorem tw_32 : (Jvm.Cond.laysFinal "TurningTown" "TurningTown" "ground" "LTurningTown$Ground;") ∈ TT := tt_in (in_2 (List.mem_of_getElem? (i := 0) rfl)) rfl
theorem tw_33 : (Jvm.Cond.laysFinal "TurningTown" "TurningTown" "now" "LTurningTown$Story;") ∈ TT := tt_in (in_2 (List.mem_of_getElem? (i := 2) rfl)) rfl
theorem tw_34 : (Jvm.Cond.laysFinal "TurningTown" "TurningTown" "kept" "LTurningTown$Story;") ∈ TT := tt_in (in_2 (List.mem_of_getElem? (i := 4) rfl)) rfl
theorem tw_35 : (Jvm.Cond.laysFinal "TurningTown" "TurningTown" "ahead" "LTurningTown$Town;") ∈ TT := tt_in (in_2 (List.mem_of_getElem? (i := 6) rfl)) rfl
theorem tw_36 : (Jvm.Cond.laysFinal "TurningTown" "TurningTown" "trade" "LTurningTown$Trade;") ∈ TT := tt_in (in_2 (List.mem_of_getElem? (i := 8) rfl)) rfl
theorem tw_37 : (Jvm.Cond.laysFinal "TurningTown" "TurningTown" "plan" "LTurningTown$Plan;") ∈ TT := tt_in (in_2 (List.mem_of_getElem? (i := 10) rfl)) rfl
theorem tw_38 : (Jvm.Cond.laysFinal "TurningTown" "TurningTown" "guess" "LTurningTown$Guess;") ∈ TT := tt_in (in_2 (List.mem_of_getElem? (i := 12) rfl)) rfl
theorem tw_39 : (Jvm.Cond.lays "TurningTown" "TurningTown" "isKept" "Z") ∈ TT := tt_in (in_2 (List.mem_of_getElem? (i := 14) rfl)) rfl
theorem tw_40 : (Jvm.Cond.lays "TurningTown" "TurningTown" "squaresRead" "I") ∈ TT := tt_in (in_2 (List.mem_of_getElem? (i := 16) rfl)) rfl
theorem tw_41 : (Jvm.Cond.lays "TurningTown" "TurningTown" "ordersDone" "I") ∈ TT := tt_in (in_2 (List.mem_of_getElem? (i := 18) rfl)) rfl
theorem tw_42 : (Jvm.Cond.laysFinal "TurningTownModel" "TurningTownModel" "page" "[I") ∈ TT := tt_in (in_4 (List.mem_of_getElem? (i := 82) rfl)) rfl
theorem tw_43 : (Jvm.Cond.lays "TurningTownModel" "TurningTownModel" "pageMany" "I") ∈ TT := tt_in (in_4 (List.mem_of_getElem? (i := 84) rfl)) rfl
theorem tw_44 : (Jvm.Cond.lays "TurningTownModel" "TurningTownModel" "houses" "I") ∈ TT := tt_in (in_4 (List.mem_of_getElem? (i := 86) rfl)) rfl
theorem tw_45 : (Jvm.Cond.lays "TurningTownModel" "TurningTownModel" "nights" "I") ∈ TT := tt_in (in_4 (List.mem_of_getElem? (i := 88) rfl)) rfl
theorem tw_46 : (Jvm.Cond.lays "TurningTownModel" "TurningTownModel" "squaresRead" "I") ∈ TT := tt_in (in_4 (List.mem_of_getElem? (i := 90) rfl)) rfl
theorem tw_47 : (Jvm.Cond.laysFinal "TurningTownModel" "TurningTownModel" "worths" "[I") ∈ TT := tt_in (in_4 (List.mem_of_getElem? (i := 92) rfl)) rfl
theorem tw_48 : (Jvm.Cond.laysFinal "TurningTownModel" "TurningTownModel" "kinds" "[I") ∈ TT := tt_in (in_4 (List.mem_of_getElem? (i := 94) rfl)) rfl
theorem tw_49 : (Jvm.Cond.laysFinal "TurningTownModel" "TurningTownModel" "likes" "[I") ∈ TT := tt_in (in_4 (List.mem_of_getElem? (i := 96) rfl)) rfl
theorem tw_50 : (Jvm.Cond.laysFinal "TurningTownModel" "TurningTownModel" "had" "[I") ∈ TT := tt_in (in_4 (List.mem_of_getElem? (i := 98) rfl)) rfl
theorem tw_51 : (Jvm.Cond.laysFinal "TurningTownModel" "TurningTownModel" "plots" "[I") ∈ TT := tt_in (in_4 (List.mem_of_getElem? (i := 100) rfl)) rfl
theorem tw_52 : (Jvm.Cond.laysFinal "TurningTownModel" "TurningTownModel" "row" "[I") ∈ TT := tt_in (in_4 (List.mem_of_getElem? (i := 102) rfl)) rfl
theorem tw_53 : (Jvm.Cond.lays "TurningTownModel" "TurningTownModel" "front" "I") ∈ TT := tt_in (in_4 (List.mem_of_getElem? (i := 104) rfl)) rfl
theorem tw_54 : (Jvm.Cond.lays "TurningTownModel" "TurningTownModel" "down" "I") ∈ TT := tt_in (in_4 (List.mem_of_getElem? (i := 106) rfl)) rfl
theorem tw_55 : (Jvm.Cond.laysFinal "TurningTownModel" "TurningTownModel" "plotsThen" "[I") ∈ TT := tt_in (in_4 (List.mem_of_getElem? (i := 108) rfl)) rfl
theorem tw_56 : (Jvm.Cond.laysFinal "TurningTownModel" "TurningTownModel" "rowThen" "[I") ∈ TT := tt_in (in_4 (List.mem_of_getElem? (i := 110) rfl)) rfl
theorem tw_57 : (Jvm.Cond.lays "TurningTownModel" "TurningTownModel" "frontThen" "I") ∈ TT := tt_in (in_4 (List.mem_of_getElem? (i := 112) rfl)) rfl
theorem tw_58 : (Jvm.Cond.lays "TurningTownModel" "TurningTownModel" "downThen" "I") ∈ TT := tt_in (in_4 (List.mem_of_getElem? (i := 114) rfl)) rfl
theorem tw_59 : (Jvm.Cond.laysFinal "TurningTownModel" "TurningTownModel" "traded" "[I") ∈ TT := tt_in (in_4 (List.mem_of_getElem? (i := 116) rfl)) rfl
theorem tw_60 : (Jvm.Cond.laysFinal "TurningTownModel" "TurningTownModel" "points" "[I") ∈ TT := tt_in (in_4 (List.mem_of_getElem? (i := 118) rfl)) rfl
theorem tw_61 : (Jvm.Cond.lays "TurningTownModel" "TurningTownModel" "ringsMany" "I") ∈ TT := tt_in (in_4 (List.mem_of_getElem? (i := 120) rfl)) rfl
theorem tw_62 : (Jvm.Cond.laysFinal "TurningTownModel" "TurningTownModel" "ringLong" "[I") ∈ TT := tt_in (in_4 (List.mem_of_getElem? (i := 122) rfl)) rfl
theorem tw_63 : (Jvm.Cond.lays "TurningTownModel" "TurningTownModel" "wishesMany" "I") ∈ TT := tt_in (in_4 (List.mem_of_getElem? (i := 124) rfl)) rfl
theorem tw_64 : (Jvm.Cond.laysFinal "TurningTownModel" "TurningTownModel" "wishes" "[I") ∈ TT := tt_in (in_4 (List.mem_of_getElem? (i := 126) rfl)) rfl
theorem tw_65 : (Jvm.Cond.lays "TurningTownModel" "TurningTownModel" "ordersDone" "I") ∈ TT := tt_in (in_4 (List.mem_of_getElem? (i := 128) rfl)) rfl
theorem tw_66 : (Jvm.Cond.laysFinal "TurningTownModel" "TurningTownModel" "order" "[I") ∈ TT := tt_in (in_4 (List.mem_of_getElem? (i := 130) rfl)) rfl
theorem tw_67 : (Jvm.Cond.laysFinal "TurningTownModel" "TurningTownModel" "bestOrder" "[I") ∈ TT := tt_in (in_4 (List.mem_of_getElem? (i := 132) rfl)) rfl
theorem tw_68 : (Jvm.Cond.lays "TurningTownModel" "TurningTownModel" "seenMany" "I") ∈ TT := tt_in (in_4 (List.mem_of_getElem? (i := 134) rfl)) rfl
theorem tw_69 : (Jvm.Cond.laysFinal "TurningTownModel" "TurningTownModel" "sights" "[I") ∈ TT := tt_in (in_4 (List.mem_of_getElem? (i := 136) rfl)) rfl
theorem tw_70 : (Jvm.Cond.laysFinal "TurningTownModel" "TurningTownModel" "ways" "[I") ∈ TT := tt_in (in_4 (List.mem_of_getElem? (i := 138) rfl)) rfl
theorem tw_71 : (Jvm.Cond.lays "TurningTownModel" "TurningTownModel" "seedNow" "I") ∈ TT := tt_in (in_4 (List.mem_of_getElem? (i := 140) rfl)) rfl
theorem tw_72 : (Jvm.Cond.lays "TurningTownModel" "TurningTownModel" "keptSquare" "I") ∈ TT := tt_in (in_4 (List.mem_of_getElem? (i := 142) rfl)) rfl
theorem tw_73 : (Jvm.Cond.lays "TurningTownModel" "TurningTownModel" "keptFront" "I") ∈ TT := tt_in (in_4 (List.mem_of_getElem? (i := 144) rfl)) rfl
theorem tw_74 : (Jvm.Cond.lays "TurningTownModel" "TurningTownModel" "keptDown" "I") ∈ TT := tt_in (in_4 (List.mem_of_getElem? (i := 146) rfl)) rfl
theorem tw_75 : (Jvm.Cond.lays "TurningTownModel" "TurningTownModel" "keptNights" "I") ∈ TT := tt_in (in_4 (List.mem_of_getElem? (i := 148) rfl)) rfl
theorem tw_76 : (Jvm.Cond.lays "TurningTownModel" "TurningTownModel" "keptWishesMany" "I") ∈ TT := tt_in (in_4 (List.mem_of_getElem? (i := 150) rfl)) rfl
theorem tw_77 : (Jvm.Cond.lays "TurningTownModel" "TurningTownModel" "keptSeen" "I") ∈ TT := tt_in (in_4 (List.mem_of_getElem? (i := 152) rfl)) rfl
theorem tw_78 : (Jvm.Cond.laysFinal "TurningTownModel" "TurningTownModel" "keptKinds" "[I") ∈ TT := tt_in (in_4 (List.mem_of_getElem? (i := 154) rfl)) rfl
theorem tw_79 : (Jvm.Cond.laysFinal "TurningTownModel" "TurningTownModel" "keptPlots" "[I") ∈ TT := tt_in (in_4 (List.mem_of_getElem? (i := 156) rfl)) rfl
theorem tw_80 : (Jvm.Cond.laysFinal "TurningTownModel" "TurningTownModel" "keptRow" "[I") ∈ TT := tt_in (in_4 (List.mem_of_getElem? (i := 158) rfl)) rfl
theorem tw_81 : (Jvm.Cond.laysFinal "TurningTownModel" "TurningTownModel" "keptHad" "[I") ∈ TT := tt_in (in_4 (List.mem_of_getElem? (i := 160) rfl)) rfl
theorem tw_82 : (Jvm.Cond.laysFinal "TurningTownModel" "TurningTownModel" "keptWishes" "[I") ∈ TT := tt_in (in_4 (List.mem_of_getElem? (i := 162) rfl)) rfl
theorem tw_83 : (Jvm.Cond.laysFinal "TurningTownModel" "TurningTownModel" "keptSights" "[I") ∈ TT := tt_in (in_4 (List.mem_of_getElem? (i := 164) rfl)) rfl
theorem tw_84 : (Jvm.Cond.lays "TurningTownModel" "TurningTownModel" "hash" "J") ∈ TT := tt_in (in_4 (List.mem_of_getElem? (i := 166) rfl)) rfl
theorem tw_85 : (Jvm.Cond.fieldLink "TurningTown$Page" (15 : Nat) "TurningTown$Page" "size" "I") ∈ TT := tt_in (in_1 (List.mem_of_getElem? (i := 34) rfl)) rfl
theorem tw_86 : (Jvm.Cond.methodLink "TurningTown$Page" (27 : Nat) ({ cls := "java/lang/Math", name := "min", desc := "(II)I" } : Jvm.MethodName)) ∈ TT := tt_in (in_2 (List.mem_of_getElem? (i := 150) rfl)) rfl
theorem tw_87 : (Jvm.Cond.static ({ cls := "java/lang/Math", name := "min", desc := "(II)I" } : Jvm.MethodName)) ∈ TT := tt_in (in_2 (List.mem_of_getElem? (i := 78) rfl)) rfl
theorem tw_88 : (Jvm.Cond.initialized "java/lang/Math") ∈ TT := tt_in (in_1 (List.mem_of_getElem? (i := 7) rfl)) rfl
theorem tw_89 : (Jvm.Cond.code ({ cls := "java/lang/Math", name := "min", desc := "(II)I" } : Jvm.MethodName) prog_13_method_69_code (2 : Nat) (Option.some Jvm.ClassFile.FieldType.int)) ∈ TT := tt_in (in_2 (List.mem_of_getElem? (i := 79) rfl)) rfl
theorem tw_90 : (Jvm.Cond.code ({ cls := "TurningTown$Page", name := "houses", desc := "()I" } : Jvm.MethodName) prog_5_method_5_code (1 : Nat) (Option.some Jvm.ClassFile.FieldType.int)) ∈ TT := tt_in (in_2 (List.mem_of_getElem? (i := 149) rfl)) rfl
theorem tw_91 : (Jvm.Cond.instanceMethod ({ cls := "TurningTown$Page", name := "houses", desc := "()I" } : Jvm.MethodName)) ∈ TT := tt_in (in_2 (List.mem_of_getElem? (i := 147) rfl)) rfl
theorem tw_92 : (Jvm.Cond.selects "TurningTown$Page" ({ cls := "TurningTown$Page", name := "houses", desc := "()I" } : Jvm.MethodName) ({ cls := "TurningTown$Page", name := "houses", desc := "()I" } : Jvm.MethodName)) ∈ TT := tt_in (in_2 (List.mem_of_getElem? (i := 148) rfl)) rfl
theorem tw_93 : (Jvm.Cond.initialized "TurningTown$Page") ∈ TT := tt_in (in_1 (List.mem_of_getElem? (i := 2) rfl)) rfl
theorem tw_94 : (Jvm.Cond.fieldLink "TurningTown$Page" (9 : Nat) "TurningTown$Page" "letters" "[I") ∈ TT := tt_in (in_1 (List.mem_of_getElem? (i := 32) rfl)) rfl
theorem tw_95 : (Jvm.Cond.code ({ cls := "TurningTown$Page", name := "worthWritten", desc := "(I)I" } : Jvm.MethodName) prog_5_method_6_code (2 : Nat) (Option.some Jvm.ClassFile.FieldType.int)) ∈ TT := tt_in (in_2 (List.mem_of_getElem? (i := 154) rfl)) rfl
theorem tw_96 : (Jvm.Cond.instanceMethod ({ cls := "TurningTown$Page", name := "worthWritten", desc := "(I)I" } : Jvm.MethodName)) ∈ TT := tt_in (in_2 (List.mem_of_getElem? (i := 152) rfl)) rfl
theorem tw_97 : (Jvm.Cond.selects "TurningTown$Page" ({ cls := "TurningTown$Page", name := "worthWritten", desc := "(I)I" } : Jvm.MethodName) ({ cls := "TurningTown$Page", name := "worthWritten", desc := "(I)I" } : Jvm.MethodName)) ∈ TT := tt_in (in_2 (List.mem_of_getElem? (i := 153) rfl)) rfl
theorem tw_98 : (Jvm.Cond.code ({ cls := "TurningTown$Page", name := "likeWritten", desc := "(I)I" } : Jvm.MethodName) prog_5_method_8_code (2 : Nat) (Option.some Jvm.ClassFile.FieldType.int)) ∈ TT := tt_in (in_2 (List.mem_of_getElem? (i := 158) rfl)) rfl
theorem tw_99 : (Jvm.Cond.instanceMethod ({ cls := "TurningTown$Page", name := "likeWritten", desc := "(I)I" } : Jvm.MethodName)) ∈ TT := tt_in (in_2 (List.mem_of_getElem? (i := 156) rfl)) rfl
theorem tw_100 : (Jvm.Cond.selects "TurningTown$Page" ({ cls := "TurningTown$Page", name := "likeWritten", desc := "(I)I" } : Jvm.MethodName) ({ cls := "TurningTown$Page", name := "likeWritten", desc := "(I)I" } : Jvm.MethodName)) ∈ TT := tt_in (in_2 (List.mem_of_getElem? (i := 157) rfl)) rfl
theorem tw_101 : (Jvm.Cond.fieldLink "TurningTown$Ground" (9 : Nat) "TurningTown$Ground" "worth" "[I") ∈ TT := tt_in (in_1 (List.mem_of_getElem? (i := 48) rfl)) rfl
theorem tw_102 : (Jvm.Cond.methodLink "TurningTown$Ground" (27 : Nat) ({ cls := "TurningTown$Page", name := "worthWritten", desc := "(I)I" } : Jvm.MethodName)) ∈ TT := tt_in (in_2 (List.mem_of_getElem? (i := 151) rfl)) rfl
theorem tw_103 : (Jvm.Cond.fieldLink "TurningTown$Ground" (24 : Nat) "TurningTown$Ground" "houses" "I") ∈ TT := tt_in (in_1 (List.mem_of_getElem? (i := 53) rfl)) rfl
theorem tw_104 : (Jvm.Cond.fieldLink "TurningTown$Ground" (15 : Nat) "TurningTown$Ground" "liked" "[I") ∈ TT := tt_in (in_1 (List.mem_of_getElem? (i := 50) rfl)) rfl
theorem tw_105 : (Jvm.Cond.methodLink "TurningTown$Ground" (31 : Nat) ({ cls := "TurningTown$Page", name := "likeWritten", desc := "(I)I" } : Jvm.MethodName)) ∈ TT := tt_in (in_2 (List.mem_of_getElem? (i := 155) rfl)) rfl
theorem tw_106 : (Jvm.Cond.methodLink "TurningTown$Ground" (18 : Nat) ({ cls := "TurningTown$Page", name := "houses", desc := "()I" } : Jvm.MethodName)) ∈ TT := tt_in (in_2 (List.mem_of_getElem? (i := 146) rfl)) rfl
theorem tw_107 : (Jvm.Cond.code ({ cls := "TurningTown$Ground", name := "readFrom", desc := "(LTurningTown$Page;)V" } : Jvm.MethodName) prog_2_method_2_code (3 : Nat) (Option.none : Option Jvm.ClassFile.FieldType)) ∈ TT := tt_in (in_2 (List.mem_of_getElem? (i := 145) rfl)) rfl
theorem tw_108 : (Jvm.Cond.instanceMethod ({ cls := "TurningTown$Ground", name := "readFrom", desc := "(LTurningTown$Page;)V" } : Jvm.MethodName)) ∈ TT := tt_in (in_2 (List.mem_of_getElem? (i := 143) rfl)) rfl
theorem tw_109 : (Jvm.Cond.selects "TurningTown$Ground" ({ cls := "TurningTown$Ground", name := "readFrom", desc := "(LTurningTown$Page;)V" } : Jvm.MethodName) ({ cls := "TurningTown$Ground", name := "readFrom", desc := "(LTurningTown$Page;)V" } : Jvm.MethodName)) ∈ TT := tt_in (in_2 (List.mem_of_getElem? (i := 144) rfl)) rfl
theorem tw_110 : (Jvm.Cond.initialized "TurningTown$Ground") ∈ TT := tt_in (in_1 (List.mem_of_getElem? (i := 3) rfl)) rfl
theorem tw_111 : (Jvm.Cond.code ({ cls := "TurningTown$Ground", name := "likersOf", desc := "(I)I" } : Jvm.MethodName) prog_2_method_3_code (4 : Nat) (Option.some Jvm.ClassFile.FieldType.int)) ∈ TT := tt_in (in_3 (List.mem_of_getElem? (i := 74) rfl)) rfl
theorem tw_112 : (Jvm.Cond.instanceMethod ({ cls := "TurningTown$Ground", name := "likersOf", desc := "(I)I" } : Jvm.MethodName)) ∈ TT := tt_in (in_3 (List.mem_of_getElem? (i := 72) rfl)) rfl
theorem tw_113 : (Jvm.Cond.selects "TurningTown$Ground" ({ cls := "TurningTown$Ground", name := "likersOf", desc := "(I)I" } : Jvm.MethodName) ({ cls := "TurningTown$Ground", name := "likersOf", desc := "(I)I" } : Jvm.MethodName)) ∈ TT := tt_in (in_3 (List.mem_of_getElem? (i := 73) rfl)) rfl
theorem tw_114 : (Jvm.Cond.fieldLink "TurningTown$Town" (15 : Nat) "TurningTown$Town" "plotOf" "[I") ∈ TT := tt_in (in_1 (List.mem_of_getElem? (i := 78) rfl)) rfl
theorem tw_115 : (Jvm.Cond.code ({ cls := "TurningTown$Town", name := "isDown", desc := "(I)Z" } : Jvm.MethodName) prog_8_method_11_code (2 : Nat) (Option.some Jvm.ClassFile.FieldType.boolean)) ∈ TT := tt_in (in_3 (List.mem_of_getElem? (i := 25) rfl)) rfl
theorem tw_116 : (Jvm.Cond.instanceMethod ({ cls := "TurningTown$Town", name := "isDown", desc := "(I)Z" } : Jvm.MethodName)) ∈ TT := tt_in (in_3 (List.mem_of_getElem? (i := 23) rfl)) rfl
theorem tw_117 : (Jvm.Cond.selects "TurningTown$Town" ({ cls := "TurningTown$Town", name := "isDown", desc := "(I)Z" } : Jvm.MethodName) ({ cls := "TurningTown$Town", name := "isDown", desc := "(I)Z" } : Jvm.MethodName)) ∈ TT := tt_in (in_3 (List.mem_of_getElem? (i := 24) rfl)) rfl
theorem tw_118 : (Jvm.Cond.initialized "TurningTown$Town") ∈ TT := tt_in (in_1 (List.mem_of_getElem? (i := 5) rfl)) rfl
theorem tw_119 : (Jvm.Cond.methodLink "TurningTown$Ground" (34 : Nat) ({ cls := "TurningTown$Town", name := "isDown", desc := "(I)Z" } : Jvm.MethodName)) ∈ TT := tt_in (in_3 (List.mem_of_getElem? (i := 88) rfl)) rfl
theorem tw_120 : (Jvm.Cond.fieldLink "TurningTown$Ground" (40 : Nat) "TurningTown$Town" "plotOf" "[I") ∈ TT := tt_in (in_1 (List.mem_of_getElem? (i := 79) rfl)) rfl
theorem tw_121 : (Jvm.Cond.code ({ cls := "TurningTown$Ground", name := "worthUnder", desc := "(LTurningTown$Town;I)I" } : Jvm.MethodName) prog_2_method_4_code (3 : Nat) (Option.some Jvm.ClassFile.FieldType.int)) ∈ TT := tt_in (in_3 (List.mem_of_getElem? (i := 87) rfl)) rfl
theorem tw_122 : (Jvm.Cond.instanceMethod ({ cls := "TurningTown$Ground", name := "worthUnder", desc := "(LTurningTown$Town;I)I" } : Jvm.MethodName)) ∈ TT := tt_in (in_3 (List.mem_of_getElem? (i := 85) rfl)) rfl
theorem tw_123 : (Jvm.Cond.selects "TurningTown$Ground" ({ cls := "TurningTown$Ground", name := "worthUnder", desc := "(LTurningTown$Town;I)I" } : Jvm.MethodName) ({ cls := "TurningTown$Ground", name := "worthUnder", desc := "(LTurningTown$Town;I)I" } : Jvm.MethodName)) ∈ TT := tt_in (in_3 (List.mem_of_getElem? (i := 86) rfl)) rfl
theorem tw_124 : (Jvm.Cond.methodLink "TurningTown$Ground" (43 : Nat) ({ cls := "TurningTown$Ground", name := "worthUnder", desc := "(LTurningTown$Town;I)I" } : Jvm.MethodName)) ∈ TT := tt_in (in_3 (List.mem_of_getElem? (i := 223) rfl)) rfl
theorem tw_125 : (Jvm.Cond.code ({ cls := "TurningTown$Ground", name := "worthUnderAll", desc := "(LTurningTown$Town;)I" } : Jvm.MethodName) prog_2_method_5_code (4 : Nat) (Option.some Jvm.ClassFile.FieldType.int)) ∈ TT := tt_in (in_3 (List.mem_of_getElem? (i := 222) rfl)) rfl
theorem tw_126 : (Jvm.Cond.instanceMethod ({ cls := "TurningTown$Ground", name := "worthUnderAll", desc := "(LTurningTown$Town;)I" } : Jvm.MethodName)) ∈ TT := tt_in (in_3 (List.mem_of_getElem? (i := 220) rfl)) rfl
theorem tw_127 : (Jvm.Cond.selects "TurningTown$Ground" ({ cls := "TurningTown$Ground", name := "worthUnderAll", desc := "(LTurningTown$Town;)I" } : Jvm.MethodName) ({ cls := "TurningTown$Ground", name := "worthUnderAll", desc := "(LTurningTown$Town;)I" } : Jvm.MethodName)) ∈ TT := tt_in (in_3 (List.mem_of_getElem? (i := 221) rfl)) rfl
theorem tw_128 : (Jvm.Cond.fieldLink "TurningTown$Notes" (27 : Nat) "TurningTown$Notes" "size" "I") ∈ TT := tt_in (in_1 (List.mem_of_getElem? (i := 127) rfl)) rfl
theorem tw_129 : (Jvm.Cond.fieldLink "TurningTown$Notes" (24 : Nat) "TurningTown$Notes" "night" "[I") ∈ TT := tt_in (in_1 (List.mem_of_getElem? (i := 125) rfl)) rfl
theorem tw_130 : (Jvm.Cond.methodLink "TurningTown$Notes" (9 : Nat) ({ cls := "java/lang/Math", name := "max", desc := "(II)I" } : Jvm.MethodName)) ∈ TT := tt_in (in_1 (List.mem_of_getElem? (i := 118) rfl)) rfl
theorem tw_131 : (Jvm.Cond.static ({ cls := "java/lang/Math", name := "max", desc := "(II)I" } : Jvm.MethodName)) ∈ TT := tt_in (in_1 (List.mem_of_getElem? (i := 119) rfl)) rfl
theorem tw_132 : (Jvm.Cond.code ({ cls := "java/lang/Math", name := "max", desc := "(II)I" } : Jvm.MethodName) prog_13_method_65_code (2 : Nat) (Option.some Jvm.ClassFile.FieldType.int)) ∈ TT := tt_in (in_1 (List.mem_of_getElem? (i := 120) rfl)) rfl
theorem tw_133 : (Jvm.Cond.code ({ cls := "TurningTown$Notes", name := "lastNight", desc := "()I" } : Jvm.MethodName) prog_4_method_5_code (3 : Nat) (Option.some Jvm.ClassFile.FieldType.int)) ∈ TT := tt_in (in_2 (List.mem_of_getElem? (i := 198) rfl)) rfl
theorem tw_134 : (Jvm.Cond.instanceMethod ({ cls := "TurningTown$Notes", name := "lastNight", desc := "()I" } : Jvm.MethodName)) ∈ TT := tt_in (in_2 (List.mem_of_getElem? (i := 196) rfl)) rfl
theorem tw_135 : (Jvm.Cond.selects "TurningTown$Notes" ({ cls := "TurningTown$Notes", name := "lastNight", desc := "()I" } : Jvm.MethodName) ({ cls := "TurningTown$Notes", name := "lastNight", desc := "()I" } : Jvm.MethodName)) ∈ TT := tt_in (in_2 (List.mem_of_getElem? (i := 197) rfl)) rfl
theorem tw_136 : (Jvm.Cond.initialized "TurningTown$Notes") ∈ TT := tt_in (in_1 (List.mem_of_getElem? (i := 6) rfl)) rfl
theorem tw_137 : (Jvm.Cond.fieldLink "TurningTown$Town" (30 : Nat) "TurningTown$Town" "houses" "I") ∈ TT := tt_in (in_1 (List.mem_of_getElem? (i := 90) rfl)) rfl
theorem tw_138 : (Jvm.Cond.fieldLink "TurningTown$Town" (34 : Nat) "TurningTown$Town" "front" "I") ∈ TT := tt_in (in_1 (List.mem_of_getElem? (i := 93) rfl)) rfl
theorem tw_139 : (Jvm.Cond.fieldLink "TurningTown$Town" (37 : Nat) "TurningTown$Town" "downFor" "I") ∈ TT := tt_in (in_1 (List.mem_of_getElem? (i := 95) rfl)) rfl
theorem tw_140 : (Jvm.Cond.fieldLink "TurningTown$Town" (9 : Nat) "TurningTown$Town" "kindOf" "[I") ∈ TT := tt_in (in_1 (List.mem_of_getElem? (i := 74) rfl)) rfl
theorem tw_141 : (Jvm.Cond.methodLink "TurningTown$Town" (40 : Nat) ({ cls := "java/lang/System", name := "arraycopy", desc := "(Ljava/lang/Object;ILjava/lang/Object;II)V" } : Jvm.MethodName)) ∈ TT := tt_in (in_2 (List.mem_of_getElem? (i := 208) rfl)) rfl
theorem tw_142 : (Jvm.Cond.native ({ cls := "java/lang/System", name := "arraycopy", desc := "(Ljava/lang/Object;ILjava/lang/Object;II)V" } : Jvm.MethodName)) ∈ TT := tt_in (in_2 (List.mem_of_getElem? (i := 210) rfl)) rfl
theorem tw_143 : (Jvm.Cond.static ({ cls := "java/lang/System", name := "arraycopy", desc := "(Ljava/lang/Object;ILjava/lang/Object;II)V" } : Jvm.MethodName)) ∈ TT := tt_in (in_2 (List.mem_of_getElem? (i := 209) rfl)) rfl
theorem tw_144 : (Jvm.Cond.initialized "java/lang/System") ∈ TT := tt_in (in_1 (List.mem_of_getElem? (i := 17) rfl)) rfl
theorem tw_145 : (Jvm.Cond.fieldLink "TurningTown$Town" (18 : Nat) "TurningTown$Town" "row" "[I") ∈ TT := tt_in (in_1 (List.mem_of_getElem? (i := 84) rfl)) rfl
theorem tw_146 : (Jvm.Cond.fieldLink "TurningTown$Town" (21 : Nat) "TurningTown$Town" "standsOn" "[I") ∈ TT := tt_in (in_1 (List.mem_of_getElem? (i := 86) rfl)) rfl
theorem tw_147 : (Jvm.Cond.code ({ cls := "TurningTown$Town", name := "copyFrom", desc := "(LTurningTown$Town;)V" } : Jvm.MethodName) prog_8_method_3_code (2 : Nat) (Option.none : Option Jvm.ClassFile.FieldType)) ∈ TT := tt_in (in_2 (List.mem_of_getElem? (i := 207) rfl)) rfl
theorem tw_148 : (Jvm.Cond.instanceMethod ({ cls := "TurningTown$Town", name := "copyFrom", desc := "(LTurningTown$Town;)V" } : Jvm.MethodName)) ∈ TT := tt_in (in_2 (List.mem_of_getElem? (i := 205) rfl)) rfl
theorem tw_149 : (Jvm.Cond.selects "TurningTown$Town" ({ cls := "TurningTown$Town", name := "copyFrom", desc := "(LTurningTown$Town;)V" } : Jvm.MethodName) ({ cls := "TurningTown$Town", name := "copyFrom", desc := "(LTurningTown$Town;)V" } : Jvm.MethodName)) ∈ TT := tt_in (in_2 (List.mem_of_getElem? (i := 206) rfl)) rfl
theorem tw_150 : (Jvm.Cond.code ({ cls := "TurningTown$Town", name := "nightsFor", desc := "(I)I" } : Jvm.MethodName) prog_8_method_5_code (1 : Nat) (Option.some Jvm.ClassFile.FieldType.int)) ∈ TT := tt_in (in_2 (List.mem_of_getElem? (i := 217) rfl)) rfl
theorem tw_151 : (Jvm.Cond.static ({ cls := "TurningTown$Town", name := "nightsFor", desc := "(I)I" } : Jvm.MethodName)) ∈ TT := tt_in (in_2 (List.mem_of_getElem? (i := 216) rfl)) rfl
theorem tw_152 : (Jvm.Cond.code ({ cls := "TurningTown$Town", name := "leavePlot", desc := "(I)V" } : Jvm.MethodName) prog_8_method_8_code (3 : Nat) (Option.none : Option Jvm.ClassFile.FieldType)) ∈ TT := tt_in (in_2 (List.mem_of_getElem? (i := 225) rfl)) rfl
theorem tw_153 : (Jvm.Cond.instanceMethod ({ cls := "TurningTown$Town", name := "leavePlot", desc := "(I)V" } : Jvm.MethodName)) ∈ TT := tt_in (in_2 (List.mem_of_getElem? (i := 224) rfl)) rfl
theorem tw_154 : (Cond.selects "TurningTown$Town" ⟨"TurningTown$Town", "leavePlot", "(I)V"⟩ ⟨"TurningTown$Town", "leavePlot", "(I)V"⟩) ∈ TT := tt_in (is_1 (q := (⟨"TurningTown$Town", "leavePlot", "(I)V"⟩, 7)) (List.mem_of_getElem? (i := 3) rfl)) rfl
theorem tw_155 : (Jvm.Cond.methodLink "TurningTown$Town" (57 : Nat) ({ cls := "TurningTown$Town", name := "leavePlot", desc := "(I)V" } : Jvm.MethodName)) ∈ TT := tt_in (in_2 (List.mem_of_getElem? (i := 222) rfl)) rfl
theorem tw_156 : (Jvm.Cond.methodLink "TurningTown$Town" (46 : Nat) ({ cls := "TurningTown$Town", name := "nightsFor", desc := "(I)I" } : Jvm.MethodName)) ∈ TT := tt_in (in_2 (List.mem_of_getElem? (i := 215) rfl)) rfl
theorem tw_157 : (Jvm.Cond.code ({ cls := "TurningTown$Town", name := "takeDown", desc := "(I)V" } : Jvm.MethodName) prog_8_method_6_code (2 : Nat) (Option.none : Option Jvm.ClassFile.FieldType)) ∈ TT := tt_in (in_2 (List.mem_of_getElem? (i := 221) rfl)) rfl
theorem tw_158 : (Jvm.Cond.instanceMethod ({ cls := "TurningTown$Town", name := "takeDown", desc := "(I)V" } : Jvm.MethodName)) ∈ TT := tt_in (in_2 (List.mem_of_getElem? (i := 220) rfl)) rfl
theorem tw_159 : (Cond.selects "TurningTown$Town" ⟨"TurningTown$Town", "takeDown", "(I)V"⟩ ⟨"TurningTown$Town", "takeDown", "(I)V"⟩) ∈ TT := tt_in (is_1 (q := (⟨"TurningTown$Town", "takeDown", "(I)V"⟩, 7)) (List.mem_of_getElem? (i := 2) rfl)) rfl
theorem tw_160 : (Jvm.Cond.code ({ cls := "TurningTown$Town", name := "freeBeyond", desc := "(I)I" } : Jvm.MethodName) prog_8_method_9_code (4 : Nat) (Option.some Jvm.ClassFile.FieldType.int)) ∈ TT := tt_in (in_2 (List.mem_of_getElem? (i := 233) rfl)) rfl
theorem tw_161 : (Jvm.Cond.instanceMethod ({ cls := "TurningTown$Town", name := "freeBeyond", desc := "(I)I" } : Jvm.MethodName)) ∈ TT := tt_in (in_2 (List.mem_of_getElem? (i := 232) rfl)) rfl
theorem tw_162 : (Cond.selects "TurningTown$Town" ⟨"TurningTown$Town", "freeBeyond", "(I)I"⟩ ⟨"TurningTown$Town", "freeBeyond", "(I)I"⟩) ∈ TT := tt_in (is_1 (q := (⟨"TurningTown$Town", "freeBeyond", "(I)I"⟩, 7)) (List.mem_of_getElem? (i := 5) rfl)) rfl
theorem tw_163 : (Jvm.Cond.methodLink "TurningTown$Town" (60 : Nat) ({ cls := "TurningTown$Town", name := "freeBeyond", desc := "(I)I" } : Jvm.MethodName)) ∈ TT := tt_in (in_2 (List.mem_of_getElem? (i := 230) rfl)) rfl
theorem tw_164 : (Jvm.Cond.code ({ cls := "TurningTown$Town", name := "moveFirst", desc := "()V" } : Jvm.MethodName) prog_8_method_7_code (4 : Nat) (Option.none : Option Jvm.ClassFile.FieldType)) ∈ TT := tt_in (in_2 (List.mem_of_getElem? (i := 229) rfl)) rfl
theorem tw_165 : (Jvm.Cond.instanceMethod ({ cls := "TurningTown$Town", name := "moveFirst", desc := "()V" } : Jvm.MethodName)) ∈ TT := tt_in (in_2 (List.mem_of_getElem? (i := 228) rfl)) rfl
theorem tw_166 : (Cond.selects "TurningTown$Town" ⟨"TurningTown$Town", "moveFirst", "()V"⟩ ⟨"TurningTown$Town", "moveFirst", "()V"⟩) ∈ TT := tt_in (is_1 (q := (⟨"TurningTown$Town", "moveFirst", "()V"⟩, 7)) (List.mem_of_getElem? (i := 4) rfl)) rfl
theorem tw_167 : (Jvm.Cond.methodLink "TurningTown$Town" (54 : Nat) ({ cls := "TurningTown$Town", name := "moveFirst", desc := "()V" } : Jvm.MethodName)) ∈ TT := tt_in (in_2 (List.mem_of_getElem? (i := 226) rfl)) rfl
theorem tw_168 : (Jvm.Cond.methodLink "TurningTown$Town" (50 : Nat) ({ cls := "TurningTown$Town", name := "takeDown", desc := "(I)V" } : Jvm.MethodName)) ∈ TT := tt_in (in_2 (List.mem_of_getElem? (i := 218) rfl)) rfl
theorem tw_169 : (Jvm.Cond.code ({ cls := "TurningTown$Town", name := "turn", desc := "()I" } : Jvm.MethodName) prog_8_method_4_code (2 : Nat) (Option.some Jvm.ClassFile.FieldType.int)) ∈ TT := tt_in (in_2 (List.mem_of_getElem? (i := 214) rfl)) rfl
theorem tw_170 : (Jvm.Cond.instanceMethod ({ cls := "TurningTown$Town", name := "turn", desc := "()I" } : Jvm.MethodName)) ∈ TT := tt_in (in_2 (List.mem_of_getElem? (i := 212) rfl)) rfl
theorem tw_171 : (Jvm.Cond.selects "TurningTown$Town" ({ cls := "TurningTown$Town", name := "turn", desc := "()I" } : Jvm.MethodName) ({ cls := "TurningTown$Town", name := "turn", desc := "()I" } : Jvm.MethodName)) ∈ TT := tt_in (in_2 (List.mem_of_getElem? (i := 213) rfl)) rfl
theorem tw_172 : (Jvm.Cond.fieldLink "TurningTown$Guess" (19 : Nat) "TurningTown$Guess" "town" "LTurningTown$Town;") ∈ TT := tt_in (in_1 (List.mem_of_getElem? (i := 221) rfl)) rfl
theorem tw_173 : (Jvm.Cond.methodLink "TurningTown$Guess" (53 : Nat) ({ cls := "TurningTown$Town", name := "copyFrom", desc := "(LTurningTown$Town;)V" } : Jvm.MethodName)) ∈ TT := tt_in (in_2 (List.mem_of_getElem? (i := 204) rfl)) rfl
theorem tw_174 : (Jvm.Cond.fieldLink "TurningTown$Guess" (57 : Nat) "TurningTown$Town" "kindOf" "[I") ∈ TT := tt_in (in_1 (List.mem_of_getElem? (i := 76) rfl)) rfl
theorem tw_175 : (Jvm.Cond.methodLink "TurningTown$Guess" (61 : Nat) ({ cls := "TurningTown$Town", name := "turn", desc := "()I" } : Jvm.MethodName)) ∈ TT := tt_in (in_2 (List.mem_of_getElem? (i := 211) rfl)) rfl
theorem tw_176 : (Jvm.Cond.fieldLink "TurningTown$Guess" (11 : Nat) "TurningTown$Guess" "track" "[[I") ∈ TT := tt_in (in_1 (List.mem_of_getElem? (i := 220) rfl)) rfl
theorem tw_177 : (Jvm.Cond.fieldLink "TurningTown$Guess" (64 : Nat) "TurningTown$Town" "plotOf" "[I") ∈ TT := tt_in (in_1 (List.mem_of_getElem? (i := 80) rfl)) rfl
theorem tw_178 : (Jvm.Cond.methodLink "TurningTown$Guess" (48 : Nat) ({ cls := "java/lang/Math", name := "min", desc := "(II)I" } : Jvm.MethodName)) ∈ TT := tt_in (in_2 (List.mem_of_getElem? (i := 203) rfl)) rfl
theorem tw_179 : (Jvm.Cond.code ({ cls := "TurningTown$Guess", name := "follow", desc := "(ILTurningTown$Town;I)V" } : Jvm.MethodName) prog_3_method_4_code (7 : Nat) (Option.none : Option Jvm.ClassFile.FieldType)) ∈ TT := tt_in (in_2 (List.mem_of_getElem? (i := 202) rfl)) rfl
theorem tw_180 : (Jvm.Cond.instanceMethod ({ cls := "TurningTown$Guess", name := "follow", desc := "(ILTurningTown$Town;I)V" } : Jvm.MethodName)) ∈ TT := tt_in (in_2 (List.mem_of_getElem? (i := 201) rfl)) rfl
theorem tw_181 : (Cond.selects "TurningTown$Guess" ⟨"TurningTown$Guess", "follow", "(ILTurningTown$Town;I)V"⟩ ⟨"TurningTown$Guess", "follow", "(ILTurningTown$Town;I)V"⟩) ∈ TT := tt_in (is_1 (q := (⟨"TurningTown$Guess", "follow", "(ILTurningTown$Town;I)V"⟩, 2)) (List.mem_of_getElem? (i := 1) rfl)) rfl
theorem tw_182 : (Jvm.Cond.initialized "TurningTown$Guess") ∈ TT := tt_in (in_1 (List.mem_of_getElem? (i := 10) rfl)) rfl
theorem tw_183 : (Jvm.Cond.fieldLink "TurningTown$Guess" (71 : Nat) "TurningTown$Notes" "size" "I") ∈ TT := tt_in (in_1 (List.mem_of_getElem? (i := 129) rfl)) rfl
theorem tw_184 : (Jvm.Cond.fieldLink "TurningTown$Guess" (75 : Nat) "TurningTown$Notes" "house" "[I") ∈ TT := tt_in (in_1 (List.mem_of_getElem? (i := 122) rfl)) rfl
theorem tw_185 : (Jvm.Cond.fieldLink "TurningTown$Guess" (78 : Nat) "TurningTown$Notes" "night" "[I") ∈ TT := tt_in (in_1 (List.mem_of_getElem? (i := 126) rfl)) rfl
theorem tw_186 : (Jvm.Cond.fieldLink "TurningTown$Guess" (81 : Nat) "TurningTown$Notes" "plot" "[I") ∈ TT := tt_in (in_1 (List.mem_of_getElem? (i := 124) rfl)) rfl
theorem tw_187 : (Jvm.Cond.code ({ cls := "TurningTown$Guess", name := "agrees", desc := "(IILTurningTown$Notes;)Z" } : Jvm.MethodName) prog_3_method_6_code (5 : Nat) (Option.some Jvm.ClassFile.FieldType.boolean)) ∈ TT := tt_in (in_3 (List.mem_of_getElem? (i := 1) rfl)) rfl
theorem tw_188 : (Jvm.Cond.instanceMethod ({ cls := "TurningTown$Guess", name := "agrees", desc := "(IILTurningTown$Notes;)Z" } : Jvm.MethodName)) ∈ TT := tt_in (in_3 (List.mem_of_getElem? (i := 0) rfl)) rfl
theorem tw_189 : (Cond.selects "TurningTown$Guess" ⟨"TurningTown$Guess", "agrees", "(IILTurningTown$Notes;)Z"⟩ ⟨"TurningTown$Guess", "agrees", "(IILTurningTown$Notes;)Z"⟩) ∈ TT := tt_in (is_1 (q := (⟨"TurningTown$Guess", "agrees", "(IILTurningTown$Notes;)Z"⟩, 2)) (List.mem_of_getElem? (i := 7) rfl)) rfl
theorem tw_190 : (Jvm.Cond.methodLink "TurningTown$Guess" (67 : Nat) ({ cls := "TurningTown$Guess", name := "agrees", desc := "(IILTurningTown$Notes;)Z" } : Jvm.MethodName)) ∈ TT := tt_in (in_2 (List.mem_of_getElem? (i := 238) rfl)) rfl
theorem tw_191 : (Jvm.Cond.code ({ cls := "TurningTown$Guess", name := "kindsByTracks", desc := "(ILTurningTown$Notes;)I" } : Jvm.MethodName) prog_3_method_5_code (5 : Nat) (Option.some Jvm.ClassFile.FieldType.int)) ∈ TT := tt_in (in_2 (List.mem_of_getElem? (i := 237) rfl)) rfl
theorem tw_192 : (Jvm.Cond.instanceMethod ({ cls := "TurningTown$Guess", name := "kindsByTracks", desc := "(ILTurningTown$Notes;)I" } : Jvm.MethodName)) ∈ TT := tt_in (in_2 (List.mem_of_getElem? (i := 236) rfl)) rfl
theorem tw_193 : (Cond.selects "TurningTown$Guess" ⟨"TurningTown$Guess", "kindsByTracks", "(ILTurningTown$Notes;)I"⟩ ⟨"TurningTown$Guess", "kindsByTracks", "(ILTurningTown$Notes;)I"⟩) ∈ TT := tt_in (is_1 (q := (⟨"TurningTown$Guess", "kindsByTracks", "(ILTurningTown$Notes;)I"⟩, 2)) (List.mem_of_getElem? (i := 6) rfl)) rfl
theorem tw_194 : (Jvm.Cond.fieldLink "TurningTown$Guess" (23 : Nat) "TurningTown$Story" "town" "LTurningTown$Town;") ∈ TT := tt_in (in_1 (List.mem_of_getElem? (i := 141) rfl)) rfl
theorem tw_195 : (Jvm.Cond.fieldLink "TurningTown$Guess" (26 : Nat) "TurningTown$Story" "seen" "LTurningTown$Notes;") ∈ TT := tt_in (in_1 (List.mem_of_getElem? (i := 148) rfl)) rfl
theorem tw_196 : (Jvm.Cond.methodLink "TurningTown$Guess" (30 : Nat) ({ cls := "TurningTown$Notes", name := "lastNight", desc := "()I" } : Jvm.MethodName)) ∈ TT := tt_in (in_2 (List.mem_of_getElem? (i := 195) rfl)) rfl
theorem tw_197 : (Jvm.Cond.methodLink "TurningTown$Guess" (36 : Nat) ({ cls := "TurningTown$Guess", name := "follow", desc := "(ILTurningTown$Town;I)V" } : Jvm.MethodName)) ∈ TT := tt_in (in_2 (List.mem_of_getElem? (i := 199) rfl)) rfl
theorem tw_198 : (Jvm.Cond.methodLink "TurningTown$Guess" (40 : Nat) ({ cls := "TurningTown$Guess", name := "kindsByTracks", desc := "(ILTurningTown$Notes;)I" } : Jvm.MethodName)) ∈ TT := tt_in (in_2 (List.mem_of_getElem? (i := 234) rfl)) rfl
theorem tw_199 : (Jvm.Cond.code ({ cls := "TurningTown$Guess", name := "kindsOf", desc := "(ILTurningTown$Story;)I" } : Jvm.MethodName) prog_3_method_2_code (3 : Nat) (Option.some Jvm.ClassFile.FieldType.int)) ∈ TT := tt_in (in_2 (List.mem_of_getElem? (i := 194) rfl)) rfl
theorem tw_200 : (Jvm.Cond.instanceMethod ({ cls := "TurningTown$Guess", name := "kindsOf", desc := "(ILTurningTown$Story;)I" } : Jvm.MethodName)) ∈ TT := tt_in (in_2 (List.mem_of_getElem? (i := 192) rfl)) rfl
theorem tw_201 : (Jvm.Cond.selects "TurningTown$Guess" ({ cls := "TurningTown$Guess", name := "kindsOf", desc := "(ILTurningTown$Story;)I" } : Jvm.MethodName) ({ cls := "TurningTown$Guess", name := "kindsOf", desc := "(ILTurningTown$Story;)I" } : Jvm.MethodName)) ∈ TT := tt_in (in_2 (List.mem_of_getElem? (i := 193) rfl)) rfl
theorem tw_202 : (Jvm.Cond.code ({ cls := "TurningTown$Guess", name := "has", desc := "(II)Z" } : Jvm.MethodName) prog_3_method_9_code (2 : Nat) (Option.some Jvm.ClassFile.FieldType.boolean)) ∈ TT := tt_in (in_3 (List.mem_of_getElem? (i := 12) rfl)) rfl
theorem tw_203 : (Jvm.Cond.static ({ cls := "TurningTown$Guess", name := "has", desc := "(II)Z" } : Jvm.MethodName)) ∈ TT := tt_in (in_3 (List.mem_of_getElem? (i := 11) rfl)) rfl
theorem tw_204 : (Jvm.Cond.methodLink "TurningTown$Guess" (84 : Nat) ({ cls := "TurningTown$Guess", name := "has", desc := "(II)Z" } : Jvm.MethodName)) ∈ TT := tt_in (in_3 (List.mem_of_getElem? (i := 10) rfl)) rfl
theorem tw_205 : (Jvm.Cond.code ({ cls := "TurningTown$Guess", name := "seenAlike", desc := "(III)I" } : Jvm.MethodName) prog_3_method_8_code (6 : Nat) (Option.some Jvm.ClassFile.FieldType.int)) ∈ TT := tt_in (in_3 (List.mem_of_getElem? (i := 16) rfl)) rfl
theorem tw_206 : (Jvm.Cond.instanceMethod ({ cls := "TurningTown$Guess", name := "seenAlike", desc := "(III)I" } : Jvm.MethodName)) ∈ TT := tt_in (in_3 (List.mem_of_getElem? (i := 15) rfl)) rfl
theorem tw_207 : (Cond.selects "TurningTown$Guess" ⟨"TurningTown$Guess", "seenAlike", "(III)I"⟩ ⟨"TurningTown$Guess", "seenAlike", "(III)I"⟩) ∈ TT := tt_in (is_1 (q := (⟨"TurningTown$Guess", "seenAlike", "(III)I"⟩, 2)) (List.mem_of_getElem? (i := 9) rfl)) rfl
theorem tw_208 : (Jvm.Cond.methodLink "TurningTown$Guess" (88 : Nat) ({ cls := "TurningTown$Guess", name := "seenAlike", desc := "(III)I" } : Jvm.MethodName)) ∈ TT := tt_in (in_3 (List.mem_of_getElem? (i := 13) rfl)) rfl
theorem tw_209 : (Jvm.Cond.methodLink "TurningTown$Guess" (92 : Nat) ({ cls := "java/lang/Math", name := "max", desc := "(II)I" } : Jvm.MethodName)) ∈ TT := tt_in (in_3 (List.mem_of_getElem? (i := 17) rfl)) rfl
theorem tw_210 : (Jvm.Cond.code ({ cls := "TurningTown$Guess", name := "leftAtWorst", desc := "(II)I" } : Jvm.MethodName) prog_3_method_7_code (5 : Nat) (Option.some Jvm.ClassFile.FieldType.int)) ∈ TT := tt_in (in_3 (List.mem_of_getElem? (i := 9) rfl)) rfl
theorem tw_211 : (Jvm.Cond.instanceMethod ({ cls := "TurningTown$Guess", name := "leftAtWorst", desc := "(II)I" } : Jvm.MethodName)) ∈ TT := tt_in (in_3 (List.mem_of_getElem? (i := 8) rfl)) rfl
theorem tw_212 : (Cond.selects "TurningTown$Guess" ⟨"TurningTown$Guess", "leftAtWorst", "(II)I"⟩ ⟨"TurningTown$Guess", "leftAtWorst", "(II)I"⟩) ∈ TT := tt_in (is_1 (q := (⟨"TurningTown$Guess", "leftAtWorst", "(II)I"⟩, 2)) (List.mem_of_getElem? (i := 8) rfl)) rfl
theorem tw_213 : (Jvm.Cond.methodLink "TurningTown$Guess" (44 : Nat) ({ cls := "TurningTown$Guess", name := "leftAtWorst", desc := "(II)I" } : Jvm.MethodName)) ∈ TT := tt_in (in_3 (List.mem_of_getElem? (i := 6) rfl)) rfl
theorem tw_214 : (Jvm.Cond.code ({ cls := "TurningTown$Guess", name := "nightToLook", desc := "(ILTurningTown$Story;)I" } : Jvm.MethodName) prog_3_method_3_code (8 : Nat) (Option.some Jvm.ClassFile.FieldType.int)) ∈ TT := tt_in (in_3 (List.mem_of_getElem? (i := 5) rfl)) rfl
theorem tw_215 : (Jvm.Cond.instanceMethod ({ cls := "TurningTown$Guess", name := "nightToLook", desc := "(ILTurningTown$Story;)I" } : Jvm.MethodName)) ∈ TT := tt_in (in_3 (List.mem_of_getElem? (i := 3) rfl)) rfl
theorem tw_216 : (Jvm.Cond.selects "TurningTown$Guess" ({ cls := "TurningTown$Guess", name := "nightToLook", desc := "(ILTurningTown$Story;)I" } : Jvm.MethodName) ({ cls := "TurningTown$Guess", name := "nightToLook", desc := "(ILTurningTown$Story;)I" } : Jvm.MethodName)) ∈ TT := tt_in (in_3 (List.mem_of_getElem? (i := 4) rfl)) rfl
theorem tw_217 : (Jvm.Cond.fieldLink "TurningTown$Notes" (15 : Nat) "TurningTown$Notes" "house" "[I") ∈ TT := tt_in (in_1 (List.mem_of_getElem? (i := 121) rfl)) rfl
theorem tw_218 : (Jvm.Cond.fieldLink "TurningTown$Notes" (21 : Nat) "TurningTown$Notes" "plot" "[I") ∈ TT := tt_in (in_1 (List.mem_of_getElem? (i := 123) rfl)) rfl
theorem tw_219 : (Jvm.Cond.code ({ cls := "TurningTown$Notes", name := "add", desc := "(III)I" } : Jvm.MethodName) prog_4_method_2_code (4 : Nat) (Option.some Jvm.ClassFile.FieldType.int)) ∈ TT := tt_in (in_3 (List.mem_of_getElem? (i := 161) rfl)) rfl
theorem tw_220 : (Jvm.Cond.instanceMethod ({ cls := "TurningTown$Notes", name := "add", desc := "(III)I" } : Jvm.MethodName)) ∈ TT := tt_in (in_3 (List.mem_of_getElem? (i := 159) rfl)) rfl
theorem tw_221 : (Jvm.Cond.selects "TurningTown$Notes" ({ cls := "TurningTown$Notes", name := "add", desc := "(III)I" } : Jvm.MethodName) ({ cls := "TurningTown$Notes", name := "add", desc := "(III)I" } : Jvm.MethodName)) ∈ TT := tt_in (in_3 (List.mem_of_getElem? (i := 160) rfl)) rfl
theorem tw_222 : (Jvm.Cond.code ({ cls := "TurningTown$Notes", name := "clear", desc := "()I" } : Jvm.MethodName) prog_4_method_3_code (2 : Nat) (Option.some Jvm.ClassFile.FieldType.int)) ∈ TT := tt_in (in_2 (List.mem_of_getElem? (i := 178) rfl)) rfl
theorem tw_223 : (Jvm.Cond.instanceMethod ({ cls := "TurningTown$Notes", name := "clear", desc := "()I" } : Jvm.MethodName)) ∈ TT := tt_in (in_2 (List.mem_of_getElem? (i := 176) rfl)) rfl
theorem tw_224 : (Jvm.Cond.selects "TurningTown$Notes" ({ cls := "TurningTown$Notes", name := "clear", desc := "()I" } : Jvm.MethodName) ({ cls := "TurningTown$Notes", name := "clear", desc := "()I" } : Jvm.MethodName)) ∈ TT := tt_in (in_2 (List.mem_of_getElem? (i := 177) rfl)) rfl
theorem tw_225 : (Jvm.Cond.methodLink "TurningTown$Notes" (31 : Nat) ({ cls := "java/lang/Math", name := "min", desc := "(II)I" } : Jvm.MethodName)) ∈ TT := tt_in (in_3 (List.mem_of_getElem? (i := 238) rfl)) rfl
theorem tw_226 : (Jvm.Cond.methodLink "TurningTown$Notes" (34 : Nat) ({ cls := "java/lang/System", name := "arraycopy", desc := "(Ljava/lang/Object;ILjava/lang/Object;II)V" } : Jvm.MethodName)) ∈ TT := tt_in (in_3 (List.mem_of_getElem? (i := 239) rfl)) rfl
theorem tw_227 : (Jvm.Cond.code ({ cls := "TurningTown$Notes", name := "copyFrom", desc := "(LTurningTown$Notes;)V" } : Jvm.MethodName) prog_4_method_4_code (2 : Nat) (Option.none : Option Jvm.ClassFile.FieldType)) ∈ TT := tt_in (in_3 (List.mem_of_getElem? (i := 237) rfl)) rfl
theorem tw_228 : (Jvm.Cond.instanceMethod ({ cls := "TurningTown$Notes", name := "copyFrom", desc := "(LTurningTown$Notes;)V" } : Jvm.MethodName)) ∈ TT := tt_in (in_3 (List.mem_of_getElem? (i := 235) rfl)) rfl
theorem tw_229 : (Jvm.Cond.selects "TurningTown$Notes" ({ cls := "TurningTown$Notes", name := "copyFrom", desc := "(LTurningTown$Notes;)V" } : Jvm.MethodName) ({ cls := "TurningTown$Notes", name := "copyFrom", desc := "(LTurningTown$Notes;)V" } : Jvm.MethodName)) ∈ TT := tt_in (in_3 (List.mem_of_getElem? (i := 236) rfl)) rfl
theorem tw_230 : (Jvm.Cond.fieldLink "TurningTown$Notes" (40 : Nat) "TurningTown$Town" "plotOf" "[I") ∈ TT := tt_in (in_1 (List.mem_of_getElem? (i := 81) rfl)) rfl
theorem tw_231 : (Jvm.Cond.code ({ cls := "TurningTown$Notes", name := "trueBehind", desc := "(ILTurningTown$Town;)I" } : Jvm.MethodName) prog_4_method_6_code (5 : Nat) (Option.some Jvm.ClassFile.FieldType.int)) ∈ TT := tt_in (in_3 (List.mem_of_getElem? (i := 188) rfl)) rfl
theorem tw_232 : (Jvm.Cond.instanceMethod ({ cls := "TurningTown$Notes", name := "trueBehind", desc := "(ILTurningTown$Town;)I" } : Jvm.MethodName)) ∈ TT := tt_in (in_3 (List.mem_of_getElem? (i := 186) rfl)) rfl
theorem tw_233 : (Jvm.Cond.selects "TurningTown$Notes" ({ cls := "TurningTown$Notes", name := "trueBehind", desc := "(ILTurningTown$Town;)I" } : Jvm.MethodName) ({ cls := "TurningTown$Notes", name := "trueBehind", desc := "(ILTurningTown$Town;)I" } : Jvm.MethodName)) ∈ TT := tt_in (in_3 (List.mem_of_getElem? (i := 187) rfl)) rfl
theorem tw_234 : (Jvm.Cond.code ({ cls := "TurningTown$Page", name := "write", desc := "(I)V" } : Jvm.MethodName) prog_5_method_2_code (2 : Nat) (Option.none : Option Jvm.ClassFile.FieldType)) ∈ TT := tt_in (in_2 (List.mem_of_getElem? (i := 28) rfl)) rfl
theorem tw_235 : (Jvm.Cond.instanceMethod ({ cls := "TurningTown$Page", name := "write", desc := "(I)V" } : Jvm.MethodName)) ∈ TT := tt_in (in_2 (List.mem_of_getElem? (i := 26) rfl)) rfl
theorem tw_236 : (Jvm.Cond.selects "TurningTown$Page" ({ cls := "TurningTown$Page", name := "write", desc := "(I)V" } : Jvm.MethodName) ({ cls := "TurningTown$Page", name := "write", desc := "(I)V" } : Jvm.MethodName)) ∈ TT := tt_in (in_2 (List.mem_of_getElem? (i := 27) rfl)) rfl
theorem tw_237 : (Jvm.Cond.fieldLink "java/lang/String" (38 : Nat) "java/lang/String" "COMPACT_STRINGS" "Z") ∈ TT := tt_in (in_2 (List.mem_of_getElem? (i := 60) rfl)) rfl
theorem tw_238 : (Jvm.Cond.fieldLink "java/lang/String" (15 : Nat) "java/lang/String" "coder" "B") ∈ TT := tt_in (in_6 (List.mem_of_getElem? (i := 10) rfl)) rfl
theorem tw_239 : (Jvm.Cond.code ({ cls := "java/lang/String", name := "isLatin1", desc := "()Z" } : Jvm.MethodName) prog_14_method_154_code (1 : Nat) (Option.some Jvm.ClassFile.FieldType.boolean)) ∈ TT := tt_in (in_2 (List.mem_of_getElem? (i := 59) rfl)) rfl
theorem tw_240 : (Jvm.Cond.instanceMethod ({ cls := "java/lang/String", name := "isLatin1", desc := "()Z" } : Jvm.MethodName)) ∈ TT := tt_in (in_2 (List.mem_of_getElem? (i := 57) rfl)) rfl
theorem tw_241 : (Jvm.Cond.selects "java/lang/String" ({ cls := "java/lang/String", name := "isLatin1", desc := "()Z" } : Jvm.MethodName) ({ cls := "java/lang/String", name := "isLatin1", desc := "()Z" } : Jvm.MethodName)) ∈ TT := tt_in (in_2 (List.mem_of_getElem? (i := 58) rfl)) rfl
theorem tw_242 : (Jvm.Cond.initialized "java/lang/String") ∈ TT := tt_in (in_1 (List.mem_of_getElem? (i := 12) rfl)) rfl
theorem tw_243 : (Jvm.Cond.code ({ cls := "java/lang/String", name := "coder", desc := "()B" } : Jvm.MethodName) prog_14_method_152_code (1 : Nat) (Option.some Jvm.ClassFile.FieldType.byte)) ∈ TT := tt_in (in_2 (List.mem_of_getElem? (i := 69) rfl)) rfl
theorem tw_244 : (Jvm.Cond.instanceMethod ({ cls := "java/lang/String", name := "coder", desc := "()B" } : Jvm.MethodName)) ∈ TT := tt_in (in_2 (List.mem_of_getElem? (i := 67) rfl)) rfl
theorem tw_245 : (Jvm.Cond.selects "java/lang/String" ({ cls := "java/lang/String", name := "coder", desc := "()B" } : Jvm.MethodName) ({ cls := "java/lang/String", name := "coder", desc := "()B" } : Jvm.MethodName)) ∈ TT := tt_in (in_2 (List.mem_of_getElem? (i := 68) rfl)) rfl
theorem tw_246 : (Jvm.Cond.fieldLink "java/lang/String" (9 : Nat) "java/lang/String" "value" "[B") ∈ TT := tt_in (in_6 (List.mem_of_getElem? (i := 11) rfl)) rfl
theorem tw_247 : (Jvm.Cond.methodLink "java/lang/String" (335 : Nat) ({ cls := "java/lang/String", name := "coder", desc := "()B" } : Jvm.MethodName)) ∈ TT := tt_in (in_2 (List.mem_of_getElem? (i := 66) rfl)) rfl
theorem tw_248 : (Jvm.Cond.code ({ cls := "java/lang/String", name := "length", desc := "()I" } : Jvm.MethodName) prog_14_method_54_code (1 : Nat) (Option.some Jvm.ClassFile.FieldType.int)) ∈ TT := tt_in (in_2 (List.mem_of_getElem? (i := 65) rfl)) rfl
theorem tw_249 : (Jvm.Cond.instanceMethod ({ cls := "java/lang/String", name := "length", desc := "()I" } : Jvm.MethodName)) ∈ TT := tt_in (in_2 (List.mem_of_getElem? (i := 63) rfl)) rfl
theorem tw_250 : (Jvm.Cond.selects "java/lang/String" ({ cls := "java/lang/String", name := "length", desc := "()I" } : Jvm.MethodName) ({ cls := "java/lang/String", name := "length", desc := "()I" } : Jvm.MethodName)) ∈ TT := tt_in (in_2 (List.mem_of_getElem? (i := 64) rfl)) rfl
theorem tw_251 : (Jvm.Cond.code ({ cls := "java/lang/StringLatin1", name := "canEncode", desc := "(I)Z" } : Jvm.MethodName) prog_15_method_4_code (1 : Nat) (Option.some Jvm.ClassFile.FieldType.boolean)) ∈ TT := tt_in (in_2 (List.mem_of_getElem? (i := 75) rfl)) rfl
theorem tw_252 : (Jvm.Cond.static ({ cls := "java/lang/StringLatin1", name := "canEncode", desc := "(I)Z" } : Jvm.MethodName)) ∈ TT := tt_in (in_2 (List.mem_of_getElem? (i := 74) rfl)) rfl
theorem tw_253 : (Jvm.Cond.initialized "java/lang/StringLatin1") ∈ TT := tt_in (in_1 (List.mem_of_getElem? (i := 13) rfl)) rfl
theorem tw_254 : (Jvm.Cond.code ({ cls := "java/lang/StringLatin1", name := "indexOfChar", desc := "([BIII)I" } : Jvm.MethodName) prog_15_method_23_code (6 : Nat) (Option.some Jvm.ClassFile.FieldType.int)) ∈ TT := tt_in (in_2 (List.mem_of_getElem? (i := 82) rfl)) rfl
theorem tw_255 : (Jvm.Cond.static ({ cls := "java/lang/StringLatin1", name := "indexOfChar", desc := "([BIII)I" } : Jvm.MethodName)) ∈ TT := tt_in (in_2 (List.mem_of_getElem? (i := 81) rfl)) rfl
theorem tw_256 : (Jvm.Cond.methodLink "java/lang/StringLatin1" (88 : Nat) ({ cls := "java/lang/StringLatin1", name := "canEncode", desc := "(I)Z" } : Jvm.MethodName)) ∈ TT := tt_in (in_2 (List.mem_of_getElem? (i := 73) rfl)) rfl
theorem tw_257 : (Jvm.Cond.methodLink "java/lang/StringLatin1" (92 : Nat) ({ cls := "java/lang/Math", name := "max", desc := "(II)I" } : Jvm.MethodName)) ∈ TT := tt_in (in_2 (List.mem_of_getElem? (i := 76) rfl)) rfl
theorem tw_258 : (Jvm.Cond.methodLink "java/lang/StringLatin1" (38 : Nat) ({ cls := "java/lang/Math", name := "min", desc := "(II)I" } : Jvm.MethodName)) ∈ TT := tt_in (in_2 (List.mem_of_getElem? (i := 77) rfl)) rfl
theorem tw_259 : (Jvm.Cond.methodLink "java/lang/StringLatin1" (95 : Nat) ({ cls := "java/lang/StringLatin1", name := "indexOfChar", desc := "([BIII)I" } : Jvm.MethodName)) ∈ TT := tt_in (in_2 (List.mem_of_getElem? (i := 80) rfl)) rfl
theorem tw_260 : (Jvm.Cond.code ({ cls := "java/lang/StringLatin1", name := "indexOf", desc := "([BIII)I" } : Jvm.MethodName) prog_15_method_22_code (4 : Nat) (Option.some Jvm.ClassFile.FieldType.int)) ∈ TT := tt_in (in_2 (List.mem_of_getElem? (i := 72) rfl)) rfl
theorem tw_261 : (Jvm.Cond.static ({ cls := "java/lang/StringLatin1", name := "indexOf", desc := "([BIII)I" } : Jvm.MethodName)) ∈ TT := tt_in (in_2 (List.mem_of_getElem? (i := 71) rfl)) rfl
theorem tw_262 : (Jvm.Cond.methodLink "java/lang/String" (492 : Nat) ({ cls := "java/lang/String", name := "isLatin1", desc := "()Z" } : Jvm.MethodName)) ∈ TT := tt_in (in_2 (List.mem_of_getElem? (i := 56) rfl)) rfl
theorem tw_263 : (Jvm.Cond.methodLink "java/lang/String" (505 : Nat) ({ cls := "java/lang/String", name := "length", desc := "()I" } : Jvm.MethodName)) ∈ TT := tt_in (in_2 (List.mem_of_getElem? (i := 62) rfl)) rfl
theorem tw_264 : (Jvm.Cond.methodLink "java/lang/String" (637 : Nat) ({ cls := "java/lang/StringLatin1", name := "indexOf", desc := "([BIII)I" } : Jvm.MethodName)) ∈ TT := tt_in (in_2 (List.mem_of_getElem? (i := 70) rfl)) rfl
theorem tw_265 : (Jvm.Cond.code ({ cls := "java/lang/String", name := "indexOf", desc := "(II)I" } : Jvm.MethodName) prog_14_method_80_code (3 : Nat) (Option.some Jvm.ClassFile.FieldType.int)) ∈ TT := tt_in (in_2 (List.mem_of_getElem? (i := 55) rfl)) rfl
theorem tw_266 : (Jvm.Cond.instanceMethod ({ cls := "java/lang/String", name := "indexOf", desc := "(II)I" } : Jvm.MethodName)) ∈ TT := tt_in (in_2 (List.mem_of_getElem? (i := 53) rfl)) rfl
theorem tw_267 : (Jvm.Cond.selects "java/lang/String" ({ cls := "java/lang/String", name := "indexOf", desc := "(II)I" } : Jvm.MethodName) ({ cls := "java/lang/String", name := "indexOf", desc := "(II)I" } : Jvm.MethodName)) ∈ TT := tt_in (in_2 (List.mem_of_getElem? (i := 54) rfl)) rfl
theorem tw_268 : (Jvm.Cond.methodLink "java/lang/String" (633 : Nat) ({ cls := "java/lang/String", name := "indexOf", desc := "(II)I" } : Jvm.MethodName)) ∈ TT := tt_in (in_2 (List.mem_of_getElem? (i := 52) rfl)) rfl
theorem tw_269 : (Jvm.Cond.code ({ cls := "java/lang/String", name := "indexOf", desc := "(I)I" } : Jvm.MethodName) prog_14_method_79_code (2 : Nat) (Option.some Jvm.ClassFile.FieldType.int)) ∈ TT := tt_in (in_2 (List.mem_of_getElem? (i := 51) rfl)) rfl
theorem tw_270 : (Jvm.Cond.instanceMethod ({ cls := "java/lang/String", name := "indexOf", desc := "(I)I" } : Jvm.MethodName)) ∈ TT := tt_in (in_2 (List.mem_of_getElem? (i := 49) rfl)) rfl
theorem tw_271 : (Jvm.Cond.selects "java/lang/String" ({ cls := "java/lang/String", name := "indexOf", desc := "(I)I" } : Jvm.MethodName) ({ cls := "java/lang/String", name := "indexOf", desc := "(I)I" } : Jvm.MethodName)) ∈ TT := tt_in (in_2 (List.mem_of_getElem? (i := 50) rfl)) rfl
theorem tw_272 : (Jvm.Cond.methodLink "TurningTown$Page" (39 : Nat) ({ cls := "java/lang/String", name := "indexOf", desc := "(I)I" } : Jvm.MethodName)) ∈ TT := tt_in (in_2 (List.mem_of_getElem? (i := 48) rfl)) rfl
theorem tw_273 : (Jvm.Cond.code ({ cls := "TurningTown$Page", name := "kindBy", desc := "(I)I" } : Jvm.MethodName) prog_5_method_10_code (1 : Nat) (Option.some Jvm.ClassFile.FieldType.int)) ∈ TT := tt_in (in_2 (List.mem_of_getElem? (i := 46) rfl)) rfl
theorem tw_274 : (Jvm.Cond.static ({ cls := "TurningTown$Page", name := "kindBy", desc := "(I)I" } : Jvm.MethodName)) ∈ TT := tt_in (in_2 (List.mem_of_getElem? (i := 45) rfl)) rfl
theorem tw_275 : (Jvm.Cond.methodLink "TurningTown$Page" (33 : Nat) ({ cls := "TurningTown$Page", name := "kindBy", desc := "(I)I" } : Jvm.MethodName)) ∈ TT := tt_in (in_2 (List.mem_of_getElem? (i := 44) rfl)) rfl
theorem tw_276 : (Jvm.Cond.code ({ cls := "TurningTown$Page", name := "fits", desc := "(II)Z" } : Jvm.MethodName) prog_5_method_9_code (2 : Nat) (Option.some Jvm.ClassFile.FieldType.boolean)) ∈ TT := tt_in (in_2 (List.mem_of_getElem? (i := 43) rfl)) rfl
theorem tw_277 : (Jvm.Cond.static ({ cls := "TurningTown$Page", name := "fits", desc := "(II)Z" } : Jvm.MethodName)) ∈ TT := tt_in (in_2 (List.mem_of_getElem? (i := 42) rfl)) rfl
theorem tw_278 : (Jvm.Cond.methodLink "TurningTown$Page" (19 : Nat) ({ cls := "TurningTown$Page", name := "fits", desc := "(II)Z" } : Jvm.MethodName)) ∈ TT := tt_in (in_2 (List.mem_of_getElem? (i := 41) rfl)) rfl
theorem tw_279 : (Jvm.Cond.code ({ cls := "TurningTown$Page", name := "firstWrong", desc := "()I" } : Jvm.MethodName) prog_5_method_3_code (2 : Nat) (Option.some Jvm.ClassFile.FieldType.int)) ∈ TT := tt_in (in_2 (List.mem_of_getElem? (i := 40) rfl)) rfl
theorem tw_280 : (Jvm.Cond.instanceMethod ({ cls := "TurningTown$Page", name := "firstWrong", desc := "()I" } : Jvm.MethodName)) ∈ TT := tt_in (in_2 (List.mem_of_getElem? (i := 38) rfl)) rfl
theorem tw_281 : (Jvm.Cond.selects "TurningTown$Page" ({ cls := "TurningTown$Page", name := "firstWrong", desc := "()I" } : Jvm.MethodName) ({ cls := "TurningTown$Page", name := "firstWrong", desc := "()I" } : Jvm.MethodName)) ∈ TT := tt_in (in_2 (List.mem_of_getElem? (i := 39) rfl)) rfl
theorem tw_282 : (Jvm.Cond.methodLink "TurningTown$Page" (23 : Nat) ({ cls := "TurningTown$Page", name := "firstWrong", desc := "()I" } : Jvm.MethodName)) ∈ TT := tt_in (in_2 (List.mem_of_getElem? (i := 141) rfl)) rfl
theorem tw_283 : (Jvm.Cond.code ({ cls := "TurningTown$Page", name := "isSquare", desc := "()Z" } : Jvm.MethodName) prog_5_method_4_code (2 : Nat) (Option.some Jvm.ClassFile.FieldType.boolean)) ∈ TT := tt_in (in_2 (List.mem_of_getElem? (i := 140) rfl)) rfl
theorem tw_284 : (Jvm.Cond.instanceMethod ({ cls := "TurningTown$Page", name := "isSquare", desc := "()Z" } : Jvm.MethodName)) ∈ TT := tt_in (in_2 (List.mem_of_getElem? (i := 138) rfl)) rfl
theorem tw_285 : (Jvm.Cond.selects "TurningTown$Page" ({ cls := "TurningTown$Page", name := "isSquare", desc := "()Z" } : Jvm.MethodName) ({ cls := "TurningTown$Page", name := "isSquare", desc := "()Z" } : Jvm.MethodName)) ∈ TT := tt_in (in_2 (List.mem_of_getElem? (i := 139) rfl)) rfl
theorem tw_286 : (Jvm.Cond.code ({ cls := "TurningTown$Page", name := "kindWritten", desc := "(I)I" } : Jvm.MethodName) prog_5_method_7_code (2 : Nat) (Option.some Jvm.ClassFile.FieldType.int)) ∈ TT := tt_in (in_2 (List.mem_of_getElem? (i := 167) rfl)) rfl
theorem tw_287 : (Jvm.Cond.instanceMethod ({ cls := "TurningTown$Page", name := "kindWritten", desc := "(I)I" } : Jvm.MethodName)) ∈ TT := tt_in (in_2 (List.mem_of_getElem? (i := 165) rfl)) rfl
theorem tw_288 : (Jvm.Cond.selects "TurningTown$Page" ({ cls := "TurningTown$Page", name := "kindWritten", desc := "(I)I" } : Jvm.MethodName) ({ cls := "TurningTown$Page", name := "kindWritten", desc := "(I)I" } : Jvm.MethodName)) ∈ TT := tt_in (in_2 (List.mem_of_getElem? (i := 166) rfl)) rfl
theorem tw_289 : (Jvm.Cond.methodLink "TurningTown$Town" (24 : Nat) ({ cls := "java/lang/Math", name := "min", desc := "(II)I" } : Jvm.MethodName)) ∈ TT := tt_in (in_2 (List.mem_of_getElem? (i := 174) rfl)) rfl
theorem tw_290 : (Jvm.Cond.code ({ cls := "TurningTown$Town", name := "beginWith", desc := "([II)V" } : Jvm.MethodName) prog_8_method_2_code (5 : Nat) (Option.none : Option Jvm.ClassFile.FieldType)) ∈ TT := tt_in (in_2 (List.mem_of_getElem? (i := 173) rfl)) rfl
theorem tw_291 : (Jvm.Cond.instanceMethod ({ cls := "TurningTown$Town", name := "beginWith", desc := "([II)V" } : Jvm.MethodName)) ∈ TT := tt_in (in_2 (List.mem_of_getElem? (i := 171) rfl)) rfl
theorem tw_292 : (Jvm.Cond.selects "TurningTown$Town" ({ cls := "TurningTown$Town", name := "beginWith", desc := "([II)V" } : Jvm.MethodName) ({ cls := "TurningTown$Town", name := "beginWith", desc := "([II)V" } : Jvm.MethodName)) ∈ TT := tt_in (in_2 (List.mem_of_getElem? (i := 172) rfl)) rfl
theorem tw_293 : (Jvm.Cond.fieldLink "TurningTown$Plan" (21 : Nat) "TurningTown$Plan" "town" "LTurningTown$Town;") ∈ TT := tt_in (in_1 (List.mem_of_getElem? (i := 198) rfl)) rfl
theorem tw_294 : (Jvm.Cond.methodLink "TurningTown$Plan" (66 : Nat) ({ cls := "TurningTown$Town", name := "turn", desc := "()I" } : Jvm.MethodName)) ∈ TT := tt_in (in_3 (List.mem_of_getElem? (i := 184) rfl)) rfl
theorem tw_295 : (Jvm.Cond.methodLink "TurningTown$Plan" (69 : Nat) ({ cls := "TurningTown$Notes", name := "trueBehind", desc := "(ILTurningTown$Town;)I" } : Jvm.MethodName)) ∈ TT := tt_in (in_3 (List.mem_of_getElem? (i := 185) rfl)) rfl
theorem tw_296 : (Jvm.Cond.fieldLink "TurningTown$Plan" (15 : Nat) "TurningTown$Plan" "trial" "[I") ∈ TT := tt_in (in_1 (List.mem_of_getElem? (i := 197) rfl)) rfl
theorem tw_297 : (Jvm.Cond.methodLink "TurningTown$Plan" (58 : Nat) ({ cls := "TurningTown$Town", name := "beginWith", desc := "([II)V" } : Jvm.MethodName)) ∈ TT := tt_in (in_3 (List.mem_of_getElem? (i := 182) rfl)) rfl
theorem tw_298 : (Jvm.Cond.methodLink "TurningTown$Plan" (62 : Nat) ({ cls := "TurningTown$Notes", name := "lastNight", desc := "()I" } : Jvm.MethodName)) ∈ TT := tt_in (in_3 (List.mem_of_getElem? (i := 183) rfl)) rfl
theorem tw_299 : (Jvm.Cond.code ({ cls := "TurningTown$Plan", name := "grantedBy", desc := "(ILTurningTown$Notes;)I" } : Jvm.MethodName) prog_6_method_3_code (6 : Nat) (Option.some Jvm.ClassFile.FieldType.int)) ∈ TT := tt_in (in_3 (List.mem_of_getElem? (i := 181) rfl)) rfl
theorem tw_300 : (Jvm.Cond.instanceMethod ({ cls := "TurningTown$Plan", name := "grantedBy", desc := "(ILTurningTown$Notes;)I" } : Jvm.MethodName)) ∈ TT := tt_in (in_3 (List.mem_of_getElem? (i := 180) rfl)) rfl
theorem tw_301 : (Cond.selects "TurningTown$Plan" ⟨"TurningTown$Plan", "grantedBy", "(ILTurningTown$Notes;)I"⟩ ⟨"TurningTown$Plan", "grantedBy", "(ILTurningTown$Notes;)I"⟩) ∈ TT := tt_in (is_2 (q := (⟨"TurningTown$Plan", "grantedBy", "(ILTurningTown$Notes;)I"⟩, 4)) (List.mem_of_getElem? (i := 1) rfl)) rfl
theorem tw_302 : (Jvm.Cond.initialized "TurningTown$Plan") ∈ TT := tt_in (in_1 (List.mem_of_getElem? (i := 9) rfl)) rfl
theorem tw_303 : (Jvm.Cond.code ({ cls := "TurningTown$Plan", name := "exchange", desc := "(II)V" } : Jvm.MethodName) prog_6_method_5_code (4 : Nat) (Option.none : Option Jvm.ClassFile.FieldType)) ∈ TT := tt_in (in_3 (List.mem_of_getElem? (i := 196) rfl)) rfl
theorem tw_304 : (Jvm.Cond.instanceMethod ({ cls := "TurningTown$Plan", name := "exchange", desc := "(II)V" } : Jvm.MethodName)) ∈ TT := tt_in (in_3 (List.mem_of_getElem? (i := 195) rfl)) rfl
theorem tw_305 : (Cond.selects "TurningTown$Plan" ⟨"TurningTown$Plan", "exchange", "(II)V"⟩ ⟨"TurningTown$Plan", "exchange", "(II)V"⟩) ∈ TT := tt_in (is_2 (q := (⟨"TurningTown$Plan", "exchange", "(II)V"⟩, 4)) (List.mem_of_getElem? (i := 3) rfl)) rfl
theorem tw_306 : (Jvm.Cond.methodLink "TurningTown$Plan" (73 : Nat) ({ cls := "TurningTown$Plan", name := "exchange", desc := "(II)V" } : Jvm.MethodName)) ∈ TT := tt_in (in_3 (List.mem_of_getElem? (i := 193) rfl)) rfl
theorem tw_307 : (Jvm.Cond.code ({ cls := "TurningTown$Plan", name := "goToNextTrial", desc := "(I)Z" } : Jvm.MethodName) prog_6_method_4_code (6 : Nat) (Option.some Jvm.ClassFile.FieldType.boolean)) ∈ TT := tt_in (in_3 (List.mem_of_getElem? (i := 192) rfl)) rfl
theorem tw_308 : (Jvm.Cond.instanceMethod ({ cls := "TurningTown$Plan", name := "goToNextTrial", desc := "(I)Z" } : Jvm.MethodName)) ∈ TT := tt_in (in_3 (List.mem_of_getElem? (i := 191) rfl)) rfl
theorem tw_309 : (Cond.selects "TurningTown$Plan" ⟨"TurningTown$Plan", "goToNextTrial", "(I)Z"⟩ ⟨"TurningTown$Plan", "goToNextTrial", "(I)Z"⟩) ∈ TT := tt_in (is_2 (q := (⟨"TurningTown$Plan", "goToNextTrial", "(I)Z"⟩, 4)) (List.mem_of_getElem? (i := 2) rfl)) rfl
theorem tw_310 : (Jvm.Cond.fieldLink "TurningTown$Plan" (38 : Nat) "TurningTown$Plan" "most" "I") ∈ TT := tt_in (in_1 (List.mem_of_getElem? (i := 199) rfl)) rfl
theorem tw_311 : (Jvm.Cond.fieldLink "TurningTown$Plan" (49 : Nat) "TurningTown$Notes" "size" "I") ∈ TT := tt_in (in_1 (List.mem_of_getElem? (i := 128) rfl)) rfl
theorem tw_312 : (Jvm.Cond.fieldLink "TurningTown$Plan" (42 : Nat) "TurningTown$Town" "houses" "I") ∈ TT := tt_in (in_1 (List.mem_of_getElem? (i := 91) rfl)) rfl
theorem tw_313 : (Jvm.Cond.methodLink "TurningTown$Plan" (54 : Nat) ({ cls := "TurningTown$Plan", name := "goToNextTrial", desc := "(I)Z" } : Jvm.MethodName)) ∈ TT := tt_in (in_3 (List.mem_of_getElem? (i := 189) rfl)) rfl
theorem tw_314 : (Jvm.Cond.methodLink "TurningTown$Plan" (45 : Nat) ({ cls := "TurningTown$Plan", name := "grantedBy", desc := "(ILTurningTown$Notes;)I" } : Jvm.MethodName)) ∈ TT := tt_in (in_3 (List.mem_of_getElem? (i := 178) rfl)) rfl
theorem tw_315 : (Jvm.Cond.fieldLink "TurningTown$Plan" (9 : Nat) "TurningTown$Plan" "best" "[I") ∈ TT := tt_in (in_1 (List.mem_of_getElem? (i := 195) rfl)) rfl
theorem tw_316 : (Jvm.Cond.methodLink "TurningTown$Plan" (28 : Nat) ({ cls := "java/lang/System", name := "arraycopy", desc := "(Ljava/lang/Object;ILjava/lang/Object;II)V" } : Jvm.MethodName)) ∈ TT := tt_in (in_3 (List.mem_of_getElem? (i := 176) rfl)) rfl
theorem tw_317 : (Jvm.Cond.methodLink "TurningTown$Plan" (34 : Nat) ({ cls := "TurningTown$Town", name := "copyFrom", desc := "(LTurningTown$Town;)V" } : Jvm.MethodName)) ∈ TT := tt_in (in_3 (List.mem_of_getElem? (i := 177) rfl)) rfl
theorem tw_318 : (Jvm.Cond.code ({ cls := "TurningTown$Plan", name := "make", desc := "(LTurningTown$Town;LTurningTown$Notes;)V" } : Jvm.MethodName) prog_6_method_2_code (5 : Nat) (Option.none : Option Jvm.ClassFile.FieldType)) ∈ TT := tt_in (in_3 (List.mem_of_getElem? (i := 174) rfl)) rfl
theorem tw_319 : (Jvm.Cond.instanceMethod ({ cls := "TurningTown$Plan", name := "make", desc := "(LTurningTown$Town;LTurningTown$Notes;)V" } : Jvm.MethodName)) ∈ TT := tt_in (in_3 (List.mem_of_getElem? (i := 172) rfl)) rfl
theorem tw_320 : (Jvm.Cond.selects "TurningTown$Plan" ({ cls := "TurningTown$Plan", name := "make", desc := "(LTurningTown$Town;LTurningTown$Notes;)V" } : Jvm.MethodName) ({ cls := "TurningTown$Plan", name := "make", desc := "(LTurningTown$Town;LTurningTown$Notes;)V" } : Jvm.MethodName)) ∈ TT := tt_in (in_3 (List.mem_of_getElem? (i := 173) rfl)) rfl
theorem tw_321 : (Jvm.Cond.fieldLink "TurningTown$Story" (12 : Nat) "TurningTown$Story" "town" "LTurningTown$Town;") ∈ TT := tt_in (in_1 (List.mem_of_getElem? (i := 140) rfl)) rfl
theorem tw_322 : (Jvm.Cond.methodLink "TurningTown$Story" (50 : Nat) ({ cls := "TurningTown$Town", name := "beginWith", desc := "([II)V" } : Jvm.MethodName)) ∈ TT := tt_in (in_2 (List.mem_of_getElem? (i := 170) rfl)) rfl
theorem tw_323 : (Jvm.Cond.fieldLink "TurningTown$Story" (27 : Nat) "TurningTown$Story" "wishes" "LTurningTown$Notes;") ∈ TT := tt_in (in_1 (List.mem_of_getElem? (i := 145) rfl)) rfl
theorem tw_324 : (Jvm.Cond.methodLink "TurningTown$Story" (54 : Nat) ({ cls := "TurningTown$Notes", name := "clear", desc := "()I" } : Jvm.MethodName)) ∈ TT := tt_in (in_2 (List.mem_of_getElem? (i := 175) rfl)) rfl
theorem tw_325 : (Jvm.Cond.fieldLink "TurningTown$Story" (31 : Nat) "TurningTown$Story" "seen" "LTurningTown$Notes;") ∈ TT := tt_in (in_1 (List.mem_of_getElem? (i := 147) rfl)) rfl
theorem tw_326 : (Jvm.Cond.fieldLink "TurningTown$Story" (57 : Nat) "TurningTown$Story" "nights" "I") ∈ TT := tt_in (in_1 (List.mem_of_getElem? (i := 150) rfl)) rfl
theorem tw_327 : (Jvm.Cond.fieldLink "TurningTown$Story" (18 : Nat) "TurningTown$Story" "had" "[I") ∈ TT := tt_in (in_1 (List.mem_of_getElem? (i := 143) rfl)) rfl
theorem tw_328 : (Jvm.Cond.fieldLink "TurningTown$Story" (40 : Nat) "TurningTown$Town" "kindOf" "[I") ∈ TT := tt_in (in_1 (List.mem_of_getElem? (i := 75) rfl)) rfl
theorem tw_329 : (Jvm.Cond.methodLink "TurningTown$Story" (43 : Nat) ({ cls := "TurningTown$Page", name := "kindWritten", desc := "(I)I" } : Jvm.MethodName)) ∈ TT := tt_in (in_2 (List.mem_of_getElem? (i := 164) rfl)) rfl
theorem tw_330 : (Jvm.Cond.methodLink "TurningTown$Story" (34 : Nat) ({ cls := "TurningTown$Page", name := "houses", desc := "()I" } : Jvm.MethodName)) ∈ TT := tt_in (in_2 (List.mem_of_getElem? (i := 163) rfl)) rfl
theorem tw_331 : (Jvm.Cond.code ({ cls := "TurningTown$Story", name := "beginFrom", desc := "(LTurningTown$Page;)V" } : Jvm.MethodName) prog_7_method_2_code (4 : Nat) (Option.none : Option Jvm.ClassFile.FieldType)) ∈ TT := tt_in (in_2 (List.mem_of_getElem? (i := 162) rfl)) rfl
theorem tw_332 : (Jvm.Cond.instanceMethod ({ cls := "TurningTown$Story", name := "beginFrom", desc := "(LTurningTown$Page;)V" } : Jvm.MethodName)) ∈ TT := tt_in (in_2 (List.mem_of_getElem? (i := 160) rfl)) rfl
theorem tw_333 : (Jvm.Cond.selects "TurningTown$Story" ({ cls := "TurningTown$Story", name := "beginFrom", desc := "(LTurningTown$Page;)V" } : Jvm.MethodName) ({ cls := "TurningTown$Story", name := "beginFrom", desc := "(LTurningTown$Page;)V" } : Jvm.MethodName)) ∈ TT := tt_in (in_2 (List.mem_of_getElem? (i := 161) rfl)) rfl
theorem tw_334 : (Jvm.Cond.initialized "TurningTown$Story") ∈ TT := tt_in (in_1 (List.mem_of_getElem? (i := 4) rfl)) rfl
theorem tw_335 : (Jvm.Cond.methodLink "TurningTown$Story" (61 : Nat) ({ cls := "TurningTown$Town", name := "copyFrom", desc := "(LTurningTown$Town;)V" } : Jvm.MethodName)) ∈ TT := tt_in (in_3 (List.mem_of_getElem? (i := 232) rfl)) rfl
theorem tw_336 : (Jvm.Cond.methodLink "TurningTown$Story" (65 : Nat) ({ cls := "java/lang/System", name := "arraycopy", desc := "(Ljava/lang/Object;ILjava/lang/Object;II)V" } : Jvm.MethodName)) ∈ TT := tt_in (in_3 (List.mem_of_getElem? (i := 233) rfl)) rfl
theorem tw_337 : (Jvm.Cond.methodLink "TurningTown$Story" (71 : Nat) ({ cls := "TurningTown$Notes", name := "copyFrom", desc := "(LTurningTown$Notes;)V" } : Jvm.MethodName)) ∈ TT := tt_in (in_3 (List.mem_of_getElem? (i := 234) rfl)) rfl
theorem tw_338 : (Jvm.Cond.code ({ cls := "TurningTown$Story", name := "copyFrom", desc := "(LTurningTown$Story;)V" } : Jvm.MethodName) prog_7_method_3_code (2 : Nat) (Option.none : Option Jvm.ClassFile.FieldType)) ∈ TT := tt_in (in_3 (List.mem_of_getElem? (i := 231) rfl)) rfl
theorem tw_339 : (Jvm.Cond.instanceMethod ({ cls := "TurningTown$Story", name := "copyFrom", desc := "(LTurningTown$Story;)V" } : Jvm.MethodName)) ∈ TT := tt_in (in_3 (List.mem_of_getElem? (i := 229) rfl)) rfl
theorem tw_340 : (Jvm.Cond.selects "TurningTown$Story" ({ cls := "TurningTown$Story", name := "copyFrom", desc := "(LTurningTown$Story;)V" } : Jvm.MethodName) ({ cls := "TurningTown$Story", name := "copyFrom", desc := "(LTurningTown$Story;)V" } : Jvm.MethodName)) ∈ TT := tt_in (in_3 (List.mem_of_getElem? (i := 230) rfl)) rfl
theorem tw_341 : (Jvm.Cond.fieldLink "TurningTown$Story" (74 : Nat) "TurningTown$Town" "houses" "I") ∈ TT := tt_in (in_1 (List.mem_of_getElem? (i := 92) rfl)) rfl
theorem tw_342 : (Jvm.Cond.methodLink "TurningTown$Story" (76 : Nat) ({ cls := "TurningTown$Ground", name := "worthUnder", desc := "(LTurningTown$Town;I)I" } : Jvm.MethodName)) ∈ TT := tt_in (in_3 (List.mem_of_getElem? (i := 84) rfl)) rfl
theorem tw_343 : (Jvm.Cond.code ({ cls := "TurningTown$Story", name := "endNight", desc := "(LTurningTown$Ground;)V" } : Jvm.MethodName) prog_7_method_4_code (3 : Nat) (Option.none : Option Jvm.ClassFile.FieldType)) ∈ TT := tt_in (in_3 (List.mem_of_getElem? (i := 83) rfl)) rfl
theorem tw_344 : (Jvm.Cond.instanceMethod ({ cls := "TurningTown$Story", name := "endNight", desc := "(LTurningTown$Ground;)V" } : Jvm.MethodName)) ∈ TT := tt_in (in_3 (List.mem_of_getElem? (i := 81) rfl)) rfl
theorem tw_345 : (Jvm.Cond.selects "TurningTown$Story" ({ cls := "TurningTown$Story", name := "endNight", desc := "(LTurningTown$Ground;)V" } : Jvm.MethodName) ({ cls := "TurningTown$Story", name := "endNight", desc := "(LTurningTown$Ground;)V" } : Jvm.MethodName)) ∈ TT := tt_in (in_3 (List.mem_of_getElem? (i := 82) rfl)) rfl
theorem tw_346 : (Jvm.Cond.code ({ cls := "TurningTown$Story", name := "hadByAll", desc := "()I" } : Jvm.MethodName) prog_7_method_5_code (3 : Nat) (Option.some Jvm.ClassFile.FieldType.int)) ∈ TT := tt_in (in_4 (List.mem_of_getElem? (i := 15) rfl)) rfl
theorem tw_347 : (Jvm.Cond.instanceMethod ({ cls := "TurningTown$Story", name := "hadByAll", desc := "()I" } : Jvm.MethodName)) ∈ TT := tt_in (in_4 (List.mem_of_getElem? (i := 13) rfl)) rfl
theorem tw_348 : (Jvm.Cond.selects "TurningTown$Story" ({ cls := "TurningTown$Story", name := "hadByAll", desc := "()I" } : Jvm.MethodName) ({ cls := "TurningTown$Story", name := "hadByAll", desc := "()I" } : Jvm.MethodName)) ∈ TT := tt_in (in_4 (List.mem_of_getElem? (i := 14) rfl)) rfl
theorem tw_349 : (Jvm.Cond.code ({ cls := "TurningTown$Town", name := "exchange", desc := "(II)V" } : Jvm.MethodName) prog_8_method_10_code (4 : Nat) (Option.none : Option Jvm.ClassFile.FieldType)) ∈ TT := tt_in (in_3 (List.mem_of_getElem? (i := 109) rfl)) rfl
theorem tw_350 : (Jvm.Cond.instanceMethod ({ cls := "TurningTown$Town", name := "exchange", desc := "(II)V" } : Jvm.MethodName)) ∈ TT := tt_in (in_3 (List.mem_of_getElem? (i := 107) rfl)) rfl
theorem tw_351 : (Jvm.Cond.selects "TurningTown$Town" ({ cls := "TurningTown$Town", name := "exchange", desc := "(II)V" } : Jvm.MethodName) ({ cls := "TurningTown$Town", name := "exchange", desc := "(II)V" } : Jvm.MethodName)) ∈ TT := tt_in (in_3 (List.mem_of_getElem? (i := 108) rfl)) rfl
theorem tw_352 : (Jvm.Cond.methodLink "TurningTown" (285 : Nat) ({ cls := "java/lang/Math", name := "abs", desc := "(I)I" } : Jvm.MethodName)) ∈ TT := tt_in (in_3 (List.mem_of_getElem? (i := 41) rfl)) rfl
theorem tw_353 : (Jvm.Cond.static ({ cls := "java/lang/Math", name := "abs", desc := "(I)I" } : Jvm.MethodName)) ∈ TT := tt_in (in_3 (List.mem_of_getElem? (i := 42) rfl)) rfl
theorem tw_354 : (Jvm.Cond.code ({ cls := "java/lang/Math", name := "abs", desc := "(I)I" } : Jvm.MethodName) prog_13_method_59_code (1 : Nat) (Option.some Jvm.ClassFile.FieldType.int)) ∈ TT := tt_in (in_3 (List.mem_of_getElem? (i := 43) rfl)) rfl
theorem tw_355 : (Jvm.Cond.methodLink "TurningTown" (290 : Nat) ({ cls := "java/lang/Math", name := "min", desc := "(II)I" } : Jvm.MethodName)) ∈ TT := tt_in (in_3 (List.mem_of_getElem? (i := 44) rfl)) rfl
theorem tw_356 : (Jvm.Cond.code ({ cls := "TurningTown", name := "wayRound", desc := "(II)I" } : Jvm.MethodName) prog_1_method_37_code (3 : Nat) (Option.some Jvm.ClassFile.FieldType.int)) ∈ TT := tt_in (in_3 (List.mem_of_getElem? (i := 40) rfl)) rfl
theorem tw_357 : (Jvm.Cond.static ({ cls := "TurningTown", name := "wayRound", desc := "(II)I" } : Jvm.MethodName)) ∈ TT := tt_in (in_3 (List.mem_of_getElem? (i := 39) rfl)) rfl
theorem tw_358 : (Jvm.Cond.initialized "TurningTown") ∈ TT := tt_in (in_1 (List.mem_of_getElem? (i := 1) rfl)) rfl
theorem tw_359 : (Jvm.Cond.methodLink "TurningTown$Town" (63 : Nat) ({ cls := "TurningTown$Town", name := "isDown", desc := "(I)Z" } : Jvm.MethodName)) ∈ TT := tt_in (in_3 (List.mem_of_getElem? (i := 127) rfl)) rfl
theorem tw_360 : (Jvm.Cond.code ({ cls := "TurningTown$Town", name := "areBeside", desc := "(II)Z" } : Jvm.MethodName) prog_8_method_12_code (3 : Nat) (Option.some Jvm.ClassFile.FieldType.boolean)) ∈ TT := tt_in (in_3 (List.mem_of_getElem? (i := 126) rfl)) rfl
theorem tw_361 : (Jvm.Cond.instanceMethod ({ cls := "TurningTown$Town", name := "areBeside", desc := "(II)Z" } : Jvm.MethodName)) ∈ TT := tt_in (in_3 (List.mem_of_getElem? (i := 124) rfl)) rfl
theorem tw_362 : (Jvm.Cond.selects "TurningTown$Town" ({ cls := "TurningTown$Town", name := "areBeside", desc := "(II)Z" } : Jvm.MethodName) ({ cls := "TurningTown$Town", name := "areBeside", desc := "(II)Z" } : Jvm.MethodName)) ∈ TT := tt_in (in_3 (List.mem_of_getElem? (i := 125) rfl)) rfl
theorem tw_363 : (Jvm.Cond.code ({ cls := "TurningTown$Town", name := "placeInRow", desc := "(I)I" } : Jvm.MethodName) prog_8_method_13_code (3 : Nat) (Option.some Jvm.ClassFile.FieldType.int)) ∈ TT := tt_in (in_2 (List.mem_of_getElem? (i := 190) rfl)) rfl
theorem tw_364 : (Jvm.Cond.instanceMethod ({ cls := "TurningTown$Town", name := "placeInRow", desc := "(I)I" } : Jvm.MethodName)) ∈ TT := tt_in (in_2 (List.mem_of_getElem? (i := 188) rfl)) rfl
theorem tw_365 : (Jvm.Cond.selects "TurningTown$Town" ({ cls := "TurningTown$Town", name := "placeInRow", desc := "(I)I" } : Jvm.MethodName) ({ cls := "TurningTown$Town", name := "placeInRow", desc := "(I)I" } : Jvm.MethodName)) ∈ TT := tt_in (in_2 (List.mem_of_getElem? (i := 189) rfl)) rfl
theorem tw_366 : (Jvm.Cond.code ({ cls := "TurningTown$Town", name := "standing", desc := "()I" } : Jvm.MethodName) prog_8_method_14_code (3 : Nat) (Option.some Jvm.ClassFile.FieldType.int)) ∈ TT := tt_in (in_4 (List.mem_of_getElem? (i := 11) rfl)) rfl
theorem tw_367 : (Jvm.Cond.instanceMethod ({ cls := "TurningTown$Town", name := "standing", desc := "()I" } : Jvm.MethodName)) ∈ TT := tt_in (in_4 (List.mem_of_getElem? (i := 9) rfl)) rfl
theorem tw_368 : (Jvm.Cond.selects "TurningTown$Town" ({ cls := "TurningTown$Town", name := "standing", desc := "()I" } : Jvm.MethodName) ({ cls := "TurningTown$Town", name := "standing", desc := "()I" } : Jvm.MethodName)) ∈ TT := tt_in (in_4 (List.mem_of_getElem? (i := 10) rfl)) rfl
theorem tw_369 : (Jvm.Cond.code ({ cls := "TurningTown$Town", name := "standsLike", desc := "(LTurningTown$Town;)Z" } : Jvm.MethodName) prog_8_method_15_code (3 : Nat) (Option.some Jvm.ClassFile.FieldType.boolean)) ∈ TT := tt_in (in_3 (List.mem_of_getElem? (i := 136) rfl)) rfl
theorem tw_370 : (Jvm.Cond.instanceMethod ({ cls := "TurningTown$Town", name := "standsLike", desc := "(LTurningTown$Town;)Z" } : Jvm.MethodName)) ∈ TT := tt_in (in_3 (List.mem_of_getElem? (i := 134) rfl)) rfl
theorem tw_371 : (Jvm.Cond.selects "TurningTown$Town" ({ cls := "TurningTown$Town", name := "standsLike", desc := "(LTurningTown$Town;)Z" } : Jvm.MethodName) ({ cls := "TurningTown$Town", name := "standsLike", desc := "(LTurningTown$Town;)Z" } : Jvm.MethodName)) ∈ TT := tt_in (in_3 (List.mem_of_getElem? (i := 135) rfl)) rfl
theorem tw_372 : (Jvm.Cond.fieldLink "TurningTown$Trade" (18 : Nat) "TurningTown$Trade" "isLeft" "[Z") ∈ TT := tt_in (in_1 (List.mem_of_getElem? (i := 174) rfl)) rfl
theorem tw_373 : (Jvm.Cond.code ({ cls := "TurningTown$Trade", name := "firstLeft", desc := "(I)I" } : Jvm.MethodName) prog_9_method_3_code (3 : Nat) (Option.some Jvm.ClassFile.FieldType.int)) ∈ TT := tt_in (in_3 (List.mem_of_getElem? (i := 29) rfl)) rfl
theorem tw_374 : (Jvm.Cond.instanceMethod ({ cls := "TurningTown$Trade", name := "firstLeft", desc := "(I)I" } : Jvm.MethodName)) ∈ TT := tt_in (in_3 (List.mem_of_getElem? (i := 28) rfl)) rfl
theorem tw_375 : (Cond.selects "TurningTown$Trade" ⟨"TurningTown$Trade", "firstLeft", "(I)I"⟩ ⟨"TurningTown$Trade", "firstLeft", "(I)I"⟩) ∈ TT := tt_in (is_1 (q := (⟨"TurningTown$Trade", "firstLeft", "(I)I"⟩, 4)) (List.mem_of_getElem? (i := 10) rfl)) rfl
theorem tw_376 : (Jvm.Cond.initialized "TurningTown$Trade") ∈ TT := tt_in (in_1 (List.mem_of_getElem? (i := 8) rfl)) rfl
theorem tw_377 : (Jvm.Cond.fieldLink "TurningTown$Trade" (60 : Nat) "TurningTown$Town" "standsOn" "[I") ∈ TT := tt_in (in_1 (List.mem_of_getElem? (i := 87) rfl)) rfl
theorem tw_378 : (Jvm.Cond.code ({ cls := "TurningTown$Trade", name := "nearestOwner", desc := "(LTurningTown$Town;II)I" } : Jvm.MethodName) prog_9_method_5_code (8 : Nat) (Option.some Jvm.ClassFile.FieldType.int)) ∈ TT := tt_in (in_3 (List.mem_of_getElem? (i := 37) rfl)) rfl
theorem tw_379 : (Jvm.Cond.instanceMethod ({ cls := "TurningTown$Trade", name := "nearestOwner", desc := "(LTurningTown$Town;II)I" } : Jvm.MethodName)) ∈ TT := tt_in (in_3 (List.mem_of_getElem? (i := 36) rfl)) rfl
theorem tw_380 : (Cond.selects "TurningTown$Trade" ⟨"TurningTown$Trade", "nearestOwner", "(LTurningTown$Town;II)I"⟩ ⟨"TurningTown$Trade", "nearestOwner", "(LTurningTown$Town;II)I"⟩) ∈ TT := tt_in (is_1 (q := (⟨"TurningTown$Trade", "nearestOwner", "(LTurningTown$Town;II)I"⟩, 4)) (List.mem_of_getElem? (i := 12) rfl)) rfl
theorem tw_381 : (Jvm.Cond.fieldLink "TurningTown$Trade" (26 : Nat) "TurningTown$Town" "houses" "I") ∈ TT := tt_in (in_1 (List.mem_of_getElem? (i := 89) rfl)) rfl
theorem tw_382 : (Jvm.Cond.fieldLink "TurningTown$Trade" (15 : Nat) "TurningTown$Trade" "pointsTo" "[I") ∈ TT := tt_in (in_1 (List.mem_of_getElem? (i := 173) rfl)) rfl
theorem tw_383 : (Jvm.Cond.fieldLink "TurningTown$Trade" (51 : Nat) "TurningTown$Ground" "liked" "[I") ∈ TT := tt_in (in_1 (List.mem_of_getElem? (i := 51) rfl)) rfl
theorem tw_384 : (Jvm.Cond.methodLink "TurningTown$Trade" (56 : Nat) ({ cls := "TurningTown$Trade", name := "nearestOwner", desc := "(LTurningTown$Town;II)I" } : Jvm.MethodName)) ∈ TT := tt_in (in_3 (List.mem_of_getElem? (i := 34) rfl)) rfl
theorem tw_385 : (Jvm.Cond.code ({ cls := "TurningTown$Trade", name := "pointAll", desc := "(LTurningTown$Town;LTurningTown$Ground;)V" } : Jvm.MethodName) prog_9_method_4_code (4 : Nat) (Option.none : Option Jvm.ClassFile.FieldType)) ∈ TT := tt_in (in_3 (List.mem_of_getElem? (i := 33) rfl)) rfl
theorem tw_386 : (Jvm.Cond.instanceMethod ({ cls := "TurningTown$Trade", name := "pointAll", desc := "(LTurningTown$Town;LTurningTown$Ground;)V" } : Jvm.MethodName)) ∈ TT := tt_in (in_3 (List.mem_of_getElem? (i := 32) rfl)) rfl
theorem tw_387 : (Cond.selects "TurningTown$Trade" ⟨"TurningTown$Trade", "pointAll", "(LTurningTown$Town;LTurningTown$Ground;)V"⟩ ⟨"TurningTown$Trade", "pointAll", "(LTurningTown$Town;LTurningTown$Ground;)V"⟩) ∈ TT := tt_in (is_1 (q := (⟨"TurningTown$Trade", "pointAll", "(LTurningTown$Town;LTurningTown$Ground;)V"⟩, 4)) (List.mem_of_getElem? (i := 11) rfl)) rfl
theorem tw_388 : (Jvm.Cond.code ({ cls := "TurningTown$Trade", name := "onRing", desc := "(II)I" } : Jvm.MethodName) prog_9_method_6_code (5 : Nat) (Option.some Jvm.ClassFile.FieldType.int)) ∈ TT := tt_in (in_3 (List.mem_of_getElem? (i := 48) rfl)) rfl
theorem tw_389 : (Jvm.Cond.instanceMethod ({ cls := "TurningTown$Trade", name := "onRing", desc := "(II)I" } : Jvm.MethodName)) ∈ TT := tt_in (in_3 (List.mem_of_getElem? (i := 47) rfl)) rfl
theorem tw_390 : (Cond.selects "TurningTown$Trade" ⟨"TurningTown$Trade", "onRing", "(II)I"⟩ ⟨"TurningTown$Trade", "onRing", "(II)I"⟩) ∈ TT := tt_in (is_1 (q := (⟨"TurningTown$Trade", "onRing", "(II)I"⟩, 4)) (List.mem_of_getElem? (i := 13) rfl)) rfl
theorem tw_391 : (Jvm.Cond.fieldLink "TurningTown$Trade" (9 : Nat) "TurningTown$Trade" "gets" "[I") ∈ TT := tt_in (in_1 (List.mem_of_getElem? (i := 171) rfl)) rfl
theorem tw_392 : (Jvm.Cond.fieldLink "TurningTown$Trade" (66 : Nat) "TurningTown$Town" "plotOf" "[I") ∈ TT := tt_in (in_1 (List.mem_of_getElem? (i := 83) rfl)) rfl
theorem tw_393 : (Jvm.Cond.fieldLink "TurningTown$Trade" (22 : Nat) "TurningTown$Trade" "rings" "I") ∈ TT := tt_in (in_1 (List.mem_of_getElem? (i := 175) rfl)) rfl
theorem tw_394 : (Jvm.Cond.code ({ cls := "TurningTown$Trade", name := "closeRing", desc := "(ILTurningTown$Town;)V" } : Jvm.MethodName) prog_9_method_7_code (6 : Nat) (Option.none : Option Jvm.ClassFile.FieldType)) ∈ TT := tt_in (in_3 (List.mem_of_getElem? (i := 52) rfl)) rfl
theorem tw_395 : (Jvm.Cond.instanceMethod ({ cls := "TurningTown$Trade", name := "closeRing", desc := "(ILTurningTown$Town;)V" } : Jvm.MethodName)) ∈ TT := tt_in (in_3 (List.mem_of_getElem? (i := 51) rfl)) rfl
theorem tw_396 : (Cond.selects "TurningTown$Trade" ⟨"TurningTown$Trade", "closeRing", "(ILTurningTown$Town;)V"⟩ ⟨"TurningTown$Trade", "closeRing", "(ILTurningTown$Town;)V"⟩) ∈ TT := tt_in (is_1 (q := (⟨"TurningTown$Trade", "closeRing", "(ILTurningTown$Town;)V"⟩, 4)) (List.mem_of_getElem? (i := 14) rfl)) rfl
theorem tw_397 : (Jvm.Cond.methodLink "TurningTown$Trade" (35 : Nat) ({ cls := "TurningTown$Trade", name := "firstLeft", desc := "(I)I" } : Jvm.MethodName)) ∈ TT := tt_in (in_3 (List.mem_of_getElem? (i := 26) rfl)) rfl
theorem tw_398 : (Jvm.Cond.methodLink "TurningTown$Trade" (39 : Nat) ({ cls := "TurningTown$Trade", name := "pointAll", desc := "(LTurningTown$Town;LTurningTown$Ground;)V" } : Jvm.MethodName)) ∈ TT := tt_in (in_3 (List.mem_of_getElem? (i := 30) rfl)) rfl
theorem tw_399 : (Jvm.Cond.methodLink "TurningTown$Trade" (43 : Nat) ({ cls := "TurningTown$Trade", name := "onRing", desc := "(II)I" } : Jvm.MethodName)) ∈ TT := tt_in (in_3 (List.mem_of_getElem? (i := 45) rfl)) rfl
theorem tw_400 : (Jvm.Cond.methodLink "TurningTown$Trade" (47 : Nat) ({ cls := "TurningTown$Trade", name := "closeRing", desc := "(ILTurningTown$Town;)V" } : Jvm.MethodName)) ∈ TT := tt_in (in_3 (List.mem_of_getElem? (i := 49) rfl)) rfl
theorem tw_401 : (Jvm.Cond.methodLink "TurningTown$Trade" (31 : Nat) ({ cls := "TurningTown$Town", name := "isDown", desc := "(I)Z" } : Jvm.MethodName)) ∈ TT := tt_in (in_3 (List.mem_of_getElem? (i := 22) rfl)) rfl
theorem tw_402 : (Jvm.Cond.code ({ cls := "TurningTown$Trade", name := "close", desc := "(LTurningTown$Town;LTurningTown$Ground;)V" } : Jvm.MethodName) prog_9_method_2_code (5 : Nat) (Option.none : Option Jvm.ClassFile.FieldType)) ∈ TT := tt_in (in_3 (List.mem_of_getElem? (i := 21) rfl)) rfl
theorem tw_403 : (Jvm.Cond.instanceMethod ({ cls := "TurningTown$Trade", name := "close", desc := "(LTurningTown$Town;LTurningTown$Ground;)V" } : Jvm.MethodName)) ∈ TT := tt_in (in_3 (List.mem_of_getElem? (i := 19) rfl)) rfl
theorem tw_404 : (Jvm.Cond.selects "TurningTown$Trade" ({ cls := "TurningTown$Trade", name := "close", desc := "(LTurningTown$Town;LTurningTown$Ground;)V" } : Jvm.MethodName) ({ cls := "TurningTown$Trade", name := "close", desc := "(LTurningTown$Town;LTurningTown$Ground;)V" } : Jvm.MethodName)) ∈ TT := tt_in (in_3 (List.mem_of_getElem? (i := 20) rfl)) rfl
theorem tw_405 : (Jvm.Cond.fieldLink "TurningTown" (10 : Nat) "TurningTown" "page" "LTurningTown$Page;") ∈ TT := tt_in (in_1 (List.mem_of_getElem? (i := 227) rfl)) rfl
theorem tw_406 : (Jvm.Cond.fieldLink "TurningTown" (61 : Nat) "TurningTown$Page" "size" "I") ∈ TT := tt_in (in_1 (List.mem_of_getElem? (i := 35) rfl)) rfl
theorem tw_407 : (Jvm.Cond.methodLink "TurningTown" (65 : Nat) ({ cls := "TurningTown$Page", name := "write", desc := "(I)V" } : Jvm.MethodName)) ∈ TT := tt_in (in_2 (List.mem_of_getElem? (i := 25) rfl)) rfl
theorem tw_408 : (Jvm.Cond.code ({ cls := "TurningTown", name := "letter", desc := "(I)I" } : Jvm.MethodName) prog_1_method_2_code (2 : Nat) (Option.some Jvm.ClassFile.FieldType.int)) ∈ TT := tt_in (in_2 (List.mem_of_getElem? (i := 24) rfl)) rfl
theorem tw_409 : (Jvm.Cond.instanceMethod ({ cls := "TurningTown", name := "letter", desc := "(I)I" } : Jvm.MethodName)) ∈ TT := tt_in (in_2 (List.mem_of_getElem? (i := 22) rfl)) rfl
theorem tw_410 : (Jvm.Cond.selects "TurningTown" ({ cls := "TurningTown", name := "letter", desc := "(I)I" } : Jvm.MethodName) ({ cls := "TurningTown", name := "letter", desc := "(I)I" } : Jvm.MethodName)) ∈ TT := tt_in (in_2 (List.mem_of_getElem? (i := 23) rfl)) rfl
theorem tw_411 : (Jvm.Cond.code ({ cls := "TurningTown", name := "blank", desc := "()I" } : Jvm.MethodName) prog_1_method_3_code (2 : Nat) (Option.some Jvm.ClassFile.FieldType.int)) ∈ TT := tt_in (in_2 (List.mem_of_getElem? (i := 32) rfl)) rfl
theorem tw_412 : (Jvm.Cond.instanceMethod ({ cls := "TurningTown", name := "blank", desc := "()I" } : Jvm.MethodName)) ∈ TT := tt_in (in_2 (List.mem_of_getElem? (i := 30) rfl)) rfl
theorem tw_413 : (Jvm.Cond.selects "TurningTown" ({ cls := "TurningTown", name := "blank", desc := "()I" } : Jvm.MethodName) ({ cls := "TurningTown", name := "blank", desc := "()I" } : Jvm.MethodName)) ∈ TT := tt_in (in_2 (List.mem_of_getElem? (i := 31) rfl)) rfl
theorem tw_414 : (Jvm.Cond.methodLink "TurningTown" (69 : Nat) ({ cls := "TurningTown$Page", name := "firstWrong", desc := "()I" } : Jvm.MethodName)) ∈ TT := tt_in (in_2 (List.mem_of_getElem? (i := 37) rfl)) rfl
theorem tw_415 : (Jvm.Cond.code ({ cls := "TurningTown", name := "fault", desc := "()I" } : Jvm.MethodName) prog_1_method_4_code (1 : Nat) (Option.some Jvm.ClassFile.FieldType.int)) ∈ TT := tt_in (in_2 (List.mem_of_getElem? (i := 36) rfl)) rfl
theorem tw_416 : (Jvm.Cond.instanceMethod ({ cls := "TurningTown", name := "fault", desc := "()I" } : Jvm.MethodName)) ∈ TT := tt_in (in_2 (List.mem_of_getElem? (i := 34) rfl)) rfl
theorem tw_417 : (Jvm.Cond.selects "TurningTown" ({ cls := "TurningTown", name := "fault", desc := "()I" } : Jvm.MethodName) ({ cls := "TurningTown", name := "fault", desc := "()I" } : Jvm.MethodName)) ∈ TT := tt_in (in_2 (List.mem_of_getElem? (i := 35) rfl)) rfl
theorem tw_418 : (Jvm.Cond.methodLink "TurningTown" (73 : Nat) ({ cls := "TurningTown$Page", name := "isSquare", desc := "()Z" } : Jvm.MethodName)) ∈ TT := tt_in (in_2 (List.mem_of_getElem? (i := 137) rfl)) rfl
theorem tw_419 : (Jvm.Cond.fieldLink "TurningTown" (19 : Nat) "TurningTown" "ground" "LTurningTown$Ground;") ∈ TT := tt_in (in_1 (List.mem_of_getElem? (i := 228) rfl)) rfl
theorem tw_420 : (Jvm.Cond.methodLink "TurningTown" (77 : Nat) ({ cls := "TurningTown$Ground", name := "readFrom", desc := "(LTurningTown$Page;)V" } : Jvm.MethodName)) ∈ TT := tt_in (in_2 (List.mem_of_getElem? (i := 142) rfl)) rfl
theorem tw_421 : (Jvm.Cond.fieldLink "TurningTown" (26 : Nat) "TurningTown" "now" "LTurningTown$Story;") ∈ TT := tt_in (in_1 (List.mem_of_getElem? (i := 229) rfl)) rfl
theorem tw_422 : (Jvm.Cond.methodLink "TurningTown" (81 : Nat) ({ cls := "TurningTown$Story", name := "beginFrom", desc := "(LTurningTown$Page;)V" } : Jvm.MethodName)) ∈ TT := tt_in (in_2 (List.mem_of_getElem? (i := 159) rfl)) rfl
theorem tw_423 : (Jvm.Cond.fieldLink "TurningTown" (84 : Nat) "TurningTown" "isKept" "Z") ∈ TT := tt_in (in_1 (List.mem_of_getElem? (i := 235) rfl)) rfl
theorem tw_424 : (Jvm.Cond.fieldLink "TurningTown" (88 : Nat) "TurningTown" "squaresRead" "I") ∈ TT := tt_in (in_1 (List.mem_of_getElem? (i := 236) rfl)) rfl
theorem tw_425 : (Jvm.Cond.fieldLink "TurningTown" (91 : Nat) "TurningTown$Ground" "houses" "I") ∈ TT := tt_in (in_1 (List.mem_of_getElem? (i := 54) rfl)) rfl
theorem tw_426 : (Jvm.Cond.code ({ cls := "TurningTown", name := "square", desc := "()I" } : Jvm.MethodName) prog_1_method_5_code (1 : Nat) (Option.some Jvm.ClassFile.FieldType.int)) ∈ TT := tt_in (in_2 (List.mem_of_getElem? (i := 136) rfl)) rfl
theorem tw_427 : (Jvm.Cond.instanceMethod ({ cls := "TurningTown", name := "square", desc := "()I" } : Jvm.MethodName)) ∈ TT := tt_in (in_2 (List.mem_of_getElem? (i := 134) rfl)) rfl
theorem tw_428 : (Jvm.Cond.selects "TurningTown" ({ cls := "TurningTown", name := "square", desc := "()I" } : Jvm.MethodName) ({ cls := "TurningTown", name := "square", desc := "()I" } : Jvm.MethodName)) ∈ TT := tt_in (in_2 (List.mem_of_getElem? (i := 135) rfl)) rfl
theorem tw_429 : (Jvm.Cond.code ({ cls := "TurningTown", name := "isHouse", desc := "(I)Z" } : Jvm.MethodName) prog_1_method_32_code (2 : Nat) (Option.some Jvm.ClassFile.FieldType.boolean)) ∈ TT := tt_in (in_2 (List.mem_of_getElem? (i := 186) rfl)) rfl
theorem tw_430 : (Jvm.Cond.instanceMethod ({ cls := "TurningTown", name := "isHouse", desc := "(I)Z" } : Jvm.MethodName)) ∈ TT := tt_in (in_2 (List.mem_of_getElem? (i := 185) rfl)) rfl
theorem tw_431 : (Cond.selects "TurningTown" ⟨"TurningTown", "isHouse", "(I)Z"⟩ ⟨"TurningTown", "isHouse", "(I)Z"⟩) ∈ TT := tt_in (is_1 (q := (⟨"TurningTown", "isHouse", "(I)Z"⟩, 11)) (List.mem_of_getElem? (i := 0) rfl)) rfl
theorem tw_432 : (Jvm.Cond.methodLink "TurningTown" (94 : Nat) ({ cls := "TurningTown", name := "isHouse", desc := "(I)Z" } : Jvm.MethodName)) ∈ TT := tt_in (in_2 (List.mem_of_getElem? (i := 183) rfl)) rfl
theorem tw_433 : (Jvm.Cond.fieldLink "TurningTown" (98 : Nat) "TurningTown$Story" "town" "LTurningTown$Town;") ∈ TT := tt_in (in_1 (List.mem_of_getElem? (i := 142) rfl)) rfl
theorem tw_434 : (Jvm.Cond.fieldLink "TurningTown" (101 : Nat) "TurningTown$Town" "kindOf" "[I") ∈ TT := tt_in (in_1 (List.mem_of_getElem? (i := 77) rfl)) rfl
theorem tw_435 : (Jvm.Cond.fieldLink "TurningTown" (105 : Nat) "TurningTown$Ground" "liked" "[I") ∈ TT := tt_in (in_1 (List.mem_of_getElem? (i := 52) rfl)) rfl
theorem tw_436 : (Jvm.Cond.fieldLink "TurningTown" (108 : Nat) "TurningTown$Town" "plotOf" "[I") ∈ TT := tt_in (in_1 (List.mem_of_getElem? (i := 82) rfl)) rfl
theorem tw_437 : (Jvm.Cond.methodLink "TurningTown" (111 : Nat) ({ cls := "TurningTown$Town", name := "placeInRow", desc := "(I)I" } : Jvm.MethodName)) ∈ TT := tt_in (in_2 (List.mem_of_getElem? (i := 187) rfl)) rfl
theorem tw_438 : (Jvm.Cond.fieldLink "TurningTown" (115 : Nat) "TurningTown$Story" "had" "[I") ∈ TT := tt_in (in_1 (List.mem_of_getElem? (i := 144) rfl)) rfl
theorem tw_439 : (Jvm.Cond.fieldLink "TurningTown" (57 : Nat) "TurningTown" "guess" "LTurningTown$Guess;") ∈ TT := tt_in (in_1 (List.mem_of_getElem? (i := 234) rfl)) rfl
theorem tw_440 : (Jvm.Cond.methodLink "TurningTown" (118 : Nat) ({ cls := "TurningTown$Guess", name := "kindsOf", desc := "(ILTurningTown$Story;)I" } : Jvm.MethodName)) ∈ TT := tt_in (in_2 (List.mem_of_getElem? (i := 191) rfl)) rfl
theorem tw_441 : (Jvm.Cond.methodLink "TurningTown" (122 : Nat) ({ cls := "TurningTown$Guess", name := "nightToLook", desc := "(ILTurningTown$Story;)I" } : Jvm.MethodName)) ∈ TT := tt_in (in_3 (List.mem_of_getElem? (i := 2) rfl)) rfl
theorem tw_442 : (Jvm.Cond.fieldLink "TurningTown" (43 : Nat) "TurningTown" "trade" "LTurningTown$Trade;") ∈ TT := tt_in (in_1 (List.mem_of_getElem? (i := 232) rfl)) rfl
theorem tw_443 : (Jvm.Cond.methodLink "TurningTown" (125 : Nat) ({ cls := "TurningTown$Trade", name := "close", desc := "(LTurningTown$Town;LTurningTown$Ground;)V" } : Jvm.MethodName)) ∈ TT := tt_in (in_3 (List.mem_of_getElem? (i := 18) rfl)) rfl
theorem tw_444 : (Jvm.Cond.fieldLink "TurningTown" (129 : Nat) "TurningTown$Trade" "gets" "[I") ∈ TT := tt_in (in_1 (List.mem_of_getElem? (i := 172) rfl)) rfl
theorem tw_445 : (Jvm.Cond.code ({ cls := "TurningTown", name := "house", desc := "(II)I" } : Jvm.MethodName) prog_1_method_6_code (3 : Nat) (Option.some Jvm.ClassFile.FieldType.int)) ∈ TT := tt_in (in_2 (List.mem_of_getElem? (i := 182) rfl)) rfl
theorem tw_446 : (Jvm.Cond.instanceMethod ({ cls := "TurningTown", name := "house", desc := "(II)I" } : Jvm.MethodName)) ∈ TT := tt_in (in_2 (List.mem_of_getElem? (i := 180) rfl)) rfl
theorem tw_447 : (Jvm.Cond.selects "TurningTown" ({ cls := "TurningTown", name := "house", desc := "(II)I" } : Jvm.MethodName) ({ cls := "TurningTown", name := "house", desc := "(II)I" } : Jvm.MethodName)) ∈ TT := tt_in (in_2 (List.mem_of_getElem? (i := 181) rfl)) rfl
theorem tw_448 : (Jvm.Cond.code ({ cls := "TurningTown", name := "isKind", desc := "(I)Z" } : Jvm.MethodName) prog_1_method_35_code (1 : Nat) (Option.some Jvm.ClassFile.FieldType.boolean)) ∈ TT := tt_in (in_3 (List.mem_of_getElem? (i := 59) rfl)) rfl
theorem tw_449 : (Jvm.Cond.static ({ cls := "TurningTown", name := "isKind", desc := "(I)Z" } : Jvm.MethodName)) ∈ TT := tt_in (in_3 (List.mem_of_getElem? (i := 58) rfl)) rfl
theorem tw_450 : (Jvm.Cond.methodLink "TurningTown" (132 : Nat) ({ cls := "TurningTown", name := "isKind", desc := "(I)Z" } : Jvm.MethodName)) ∈ TT := tt_in (in_3 (List.mem_of_getElem? (i := 57) rfl)) rfl
theorem tw_451 : (Jvm.Cond.code ({ cls := "TurningTown", name := "as", desc := "(II)I" } : Jvm.MethodName) prog_1_method_7_code (5 : Nat) (Option.some Jvm.ClassFile.FieldType.int)) ∈ TT := tt_in (in_3 (List.mem_of_getElem? (i := 56) rfl)) rfl
theorem tw_452 : (Jvm.Cond.instanceMethod ({ cls := "TurningTown", name := "as", desc := "(II)I" } : Jvm.MethodName)) ∈ TT := tt_in (in_3 (List.mem_of_getElem? (i := 54) rfl)) rfl
theorem tw_453 : (Jvm.Cond.selects "TurningTown" ({ cls := "TurningTown", name := "as", desc := "(II)I" } : Jvm.MethodName) ({ cls := "TurningTown", name := "as", desc := "(II)I" } : Jvm.MethodName)) ∈ TT := tt_in (in_3 (List.mem_of_getElem? (i := 55) rfl)) rfl
theorem tw_454 : (Jvm.Cond.code ({ cls := "TurningTown", name := "hasSquare", desc := "()Z" } : Jvm.MethodName) prog_1_method_31_code (1 : Nat) (Option.some Jvm.ClassFile.FieldType.boolean)) ∈ TT := tt_in (in_3 (List.mem_of_getElem? (i := 67) rfl)) rfl
theorem tw_455 : (Jvm.Cond.instanceMethod ({ cls := "TurningTown", name := "hasSquare", desc := "()Z" } : Jvm.MethodName)) ∈ TT := tt_in (in_3 (List.mem_of_getElem? (i := 66) rfl)) rfl
theorem tw_456 : (Cond.selects "TurningTown" ⟨"TurningTown", "hasSquare", "()Z"⟩ ⟨"TurningTown", "hasSquare", "()Z"⟩) ∈ TT := tt_in (is_1 (q := (⟨"TurningTown", "hasSquare", "()Z"⟩, 11)) (List.mem_of_getElem? (i := 15) rfl)) rfl
theorem tw_457 : (Jvm.Cond.code ({ cls := "TurningTown", name := "isPlot", desc := "(I)Z" } : Jvm.MethodName) prog_1_method_34_code (1 : Nat) (Option.some Jvm.ClassFile.FieldType.boolean)) ∈ TT := tt_in (in_3 (List.mem_of_getElem? (i := 70) rfl)) rfl
theorem tw_458 : (Jvm.Cond.static ({ cls := "TurningTown", name := "isPlot", desc := "(I)Z" } : Jvm.MethodName)) ∈ TT := tt_in (in_3 (List.mem_of_getElem? (i := 69) rfl)) rfl
theorem tw_459 : (Jvm.Cond.methodLink "TurningTown" (135 : Nat) ({ cls := "TurningTown", name := "hasSquare", desc := "()Z" } : Jvm.MethodName)) ∈ TT := tt_in (in_3 (List.mem_of_getElem? (i := 64) rfl)) rfl
theorem tw_460 : (Jvm.Cond.methodLink "TurningTown" (138 : Nat) ({ cls := "TurningTown", name := "isPlot", desc := "(I)Z" } : Jvm.MethodName)) ∈ TT := tt_in (in_3 (List.mem_of_getElem? (i := 68) rfl)) rfl
theorem tw_461 : (Jvm.Cond.fieldLink "TurningTown" (141 : Nat) "TurningTown$Ground" "worth" "[I") ∈ TT := tt_in (in_1 (List.mem_of_getElem? (i := 49) rfl)) rfl
theorem tw_462 : (Jvm.Cond.fieldLink "TurningTown" (144 : Nat) "TurningTown$Town" "standsOn" "[I") ∈ TT := tt_in (in_1 (List.mem_of_getElem? (i := 88) rfl)) rfl
theorem tw_463 : (Jvm.Cond.methodLink "TurningTown" (147 : Nat) ({ cls := "TurningTown$Ground", name := "likersOf", desc := "(I)I" } : Jvm.MethodName)) ∈ TT := tt_in (in_3 (List.mem_of_getElem? (i := 71) rfl)) rfl
theorem tw_464 : (Jvm.Cond.code ({ cls := "TurningTown", name := "plot", desc := "(II)I" } : Jvm.MethodName) prog_1_method_8_code (3 : Nat) (Option.some Jvm.ClassFile.FieldType.int)) ∈ TT := tt_in (in_3 (List.mem_of_getElem? (i := 63) rfl)) rfl
theorem tw_465 : (Jvm.Cond.instanceMethod ({ cls := "TurningTown", name := "plot", desc := "(II)I" } : Jvm.MethodName)) ∈ TT := tt_in (in_3 (List.mem_of_getElem? (i := 61) rfl)) rfl
theorem tw_466 : (Jvm.Cond.selects "TurningTown" ({ cls := "TurningTown", name := "plot", desc := "(II)I" } : Jvm.MethodName) ({ cls := "TurningTown", name := "plot", desc := "(II)I" } : Jvm.MethodName)) ∈ TT := tt_in (in_3 (List.mem_of_getElem? (i := 62) rfl)) rfl
theorem tw_467 : (Jvm.Cond.fieldLink "TurningTown" (150 : Nat) "TurningTown$Story" "nights" "I") ∈ TT := tt_in (in_1 (List.mem_of_getElem? (i := 151) rfl)) rfl
theorem tw_468 : (Jvm.Cond.methodLink "TurningTown" (153 : Nat) ({ cls := "TurningTown$Town", name := "turn", desc := "()I" } : Jvm.MethodName)) ∈ TT := tt_in (in_3 (List.mem_of_getElem? (i := 79) rfl)) rfl
theorem tw_469 : (Jvm.Cond.methodLink "TurningTown" (156 : Nat) ({ cls := "TurningTown$Story", name := "endNight", desc := "(LTurningTown$Ground;)V" } : Jvm.MethodName)) ∈ TT := tt_in (in_3 (List.mem_of_getElem? (i := 80) rfl)) rfl
theorem tw_470 : (Jvm.Cond.code ({ cls := "TurningTown", name := "night", desc := "()I" } : Jvm.MethodName) prog_1_method_9_code (2 : Nat) (Option.some Jvm.ClassFile.FieldType.int)) ∈ TT := tt_in (in_3 (List.mem_of_getElem? (i := 78) rfl)) rfl
theorem tw_471 : (Jvm.Cond.instanceMethod ({ cls := "TurningTown", name := "night", desc := "()I" } : Jvm.MethodName)) ∈ TT := tt_in (in_3 (List.mem_of_getElem? (i := 76) rfl)) rfl
theorem tw_472 : (Jvm.Cond.selects "TurningTown" ({ cls := "TurningTown", name := "night", desc := "()I" } : Jvm.MethodName) ({ cls := "TurningTown", name := "night", desc := "()I" } : Jvm.MethodName)) ∈ TT := tt_in (in_3 (List.mem_of_getElem? (i := 77) rfl)) rfl
theorem tw_473 : (Jvm.Cond.code ({ cls := "TurningTown", name := "snow", desc := "()I" } : Jvm.MethodName) prog_1_method_10_code (1 : Nat) (Option.some Jvm.ClassFile.FieldType.int)) ∈ TT := tt_in (in_3 (List.mem_of_getElem? (i := 92) rfl)) rfl
theorem tw_474 : (Jvm.Cond.instanceMethod ({ cls := "TurningTown", name := "snow", desc := "()I" } : Jvm.MethodName)) ∈ TT := tt_in (in_3 (List.mem_of_getElem? (i := 90) rfl)) rfl
theorem tw_475 : (Jvm.Cond.selects "TurningTown" ({ cls := "TurningTown", name := "snow", desc := "()I" } : Jvm.MethodName) ({ cls := "TurningTown", name := "snow", desc := "()I" } : Jvm.MethodName)) ∈ TT := tt_in (in_3 (List.mem_of_getElem? (i := 91) rfl)) rfl
theorem tw_476 : (Jvm.Cond.methodLink "TurningTown" (160 : Nat) ({ cls := "TurningTown$Town", name := "isDown", desc := "(I)Z" } : Jvm.MethodName)) ∈ TT := tt_in (in_3 (List.mem_of_getElem? (i := 97) rfl)) rfl
theorem tw_477 : (Jvm.Cond.code ({ cls := "TurningTown", name := "build", desc := "(II)I" } : Jvm.MethodName) prog_1_method_11_code (4 : Nat) (Option.some Jvm.ClassFile.FieldType.int)) ∈ TT := tt_in (in_3 (List.mem_of_getElem? (i := 96) rfl)) rfl
theorem tw_478 : (Jvm.Cond.instanceMethod ({ cls := "TurningTown", name := "build", desc := "(II)I" } : Jvm.MethodName)) ∈ TT := tt_in (in_3 (List.mem_of_getElem? (i := 94) rfl)) rfl
theorem tw_479 : (Jvm.Cond.selects "TurningTown" ({ cls := "TurningTown", name := "build", desc := "(II)I" } : Jvm.MethodName) ({ cls := "TurningTown", name := "build", desc := "(II)I" } : Jvm.MethodName)) ∈ TT := tt_in (in_3 (List.mem_of_getElem? (i := 95) rfl)) rfl
theorem tw_480 : (Jvm.Cond.code ({ cls := "TurningTown", name := "areTwoHouses", desc := "(II)Z" } : Jvm.MethodName) prog_1_method_33_code (3 : Nat) (Option.some Jvm.ClassFile.FieldType.boolean)) ∈ TT := tt_in (in_3 (List.mem_of_getElem? (i := 105) rfl)) rfl
theorem tw_481 : (Jvm.Cond.instanceMethod ({ cls := "TurningTown", name := "areTwoHouses", desc := "(II)Z" } : Jvm.MethodName)) ∈ TT := tt_in (in_3 (List.mem_of_getElem? (i := 104) rfl)) rfl
theorem tw_482 : (Cond.selects "TurningTown" ⟨"TurningTown", "areTwoHouses", "(II)Z"⟩ ⟨"TurningTown", "areTwoHouses", "(II)Z"⟩) ∈ TT := tt_in (is_2 (q := (⟨"TurningTown", "areTwoHouses", "(II)Z"⟩, 11)) (List.mem_of_getElem? (i := 0) rfl)) rfl
theorem tw_483 : (Jvm.Cond.methodLink "TurningTown" (163 : Nat) ({ cls := "TurningTown", name := "areTwoHouses", desc := "(II)Z" } : Jvm.MethodName)) ∈ TT := tt_in (in_3 (List.mem_of_getElem? (i := 102) rfl)) rfl
theorem tw_484 : (Jvm.Cond.methodLink "TurningTown" (167 : Nat) ({ cls := "TurningTown$Town", name := "exchange", desc := "(II)V" } : Jvm.MethodName)) ∈ TT := tt_in (in_3 (List.mem_of_getElem? (i := 106) rfl)) rfl
theorem tw_485 : (Jvm.Cond.code ({ cls := "TurningTown", name := "swap", desc := "(II)I" } : Jvm.MethodName) prog_1_method_12_code (3 : Nat) (Option.some Jvm.ClassFile.FieldType.int)) ∈ TT := tt_in (in_3 (List.mem_of_getElem? (i := 101) rfl)) rfl
theorem tw_486 : (Jvm.Cond.instanceMethod ({ cls := "TurningTown", name := "swap", desc := "(II)I" } : Jvm.MethodName)) ∈ TT := tt_in (in_3 (List.mem_of_getElem? (i := 99) rfl)) rfl
theorem tw_487 : (Jvm.Cond.selects "TurningTown" ({ cls := "TurningTown", name := "swap", desc := "(II)I" } : Jvm.MethodName) ({ cls := "TurningTown", name := "swap", desc := "(II)I" } : Jvm.MethodName)) ∈ TT := tt_in (in_3 (List.mem_of_getElem? (i := 100) rfl)) rfl
theorem tw_488 : (Jvm.Cond.fieldLink "TurningTown" (36 : Nat) "TurningTown" "ahead" "LTurningTown$Town;") ∈ TT := tt_in (in_1 (List.mem_of_getElem? (i := 231) rfl)) rfl
theorem tw_489 : (Jvm.Cond.methodLink "TurningTown" (171 : Nat) ({ cls := "TurningTown$Town", name := "copyFrom", desc := "(LTurningTown$Town;)V" } : Jvm.MethodName)) ∈ TT := tt_in (in_3 (List.mem_of_getElem? (i := 114) rfl)) rfl
theorem tw_490 : (Jvm.Cond.code ({ cls := "TurningTown", name := "where", desc := "(II)I" } : Jvm.MethodName) prog_1_method_13_code (4 : Nat) (Option.some Jvm.ClassFile.FieldType.int)) ∈ TT := tt_in (in_3 (List.mem_of_getElem? (i := 113) rfl)) rfl
theorem tw_491 : (Jvm.Cond.instanceMethod ({ cls := "TurningTown", name := "where", desc := "(II)I" } : Jvm.MethodName)) ∈ TT := tt_in (in_3 (List.mem_of_getElem? (i := 111) rfl)) rfl
theorem tw_492 : (Jvm.Cond.selects "TurningTown" ({ cls := "TurningTown", name := "where", desc := "(II)I" } : Jvm.MethodName) ({ cls := "TurningTown", name := "where", desc := "(II)I" } : Jvm.MethodName)) ∈ TT := tt_in (in_3 (List.mem_of_getElem? (i := 112) rfl)) rfl
theorem tw_493 : (Jvm.Cond.code ({ cls := "TurningTown", name := "when", desc := "(II)I" } : Jvm.MethodName) prog_1_method_14_code (4 : Nat) (Option.some Jvm.ClassFile.FieldType.int)) ∈ TT := tt_in (in_3 (List.mem_of_getElem? (i := 118) rfl)) rfl
theorem tw_494 : (Jvm.Cond.instanceMethod ({ cls := "TurningTown", name := "when", desc := "(II)I" } : Jvm.MethodName)) ∈ TT := tt_in (in_3 (List.mem_of_getElem? (i := 116) rfl)) rfl
theorem tw_495 : (Jvm.Cond.selects "TurningTown" ({ cls := "TurningTown", name := "when", desc := "(II)I" } : Jvm.MethodName) ({ cls := "TurningTown", name := "when", desc := "(II)I" } : Jvm.MethodName)) ∈ TT := tt_in (in_3 (List.mem_of_getElem? (i := 117) rfl)) rfl
theorem tw_496 : (Jvm.Cond.methodLink "TurningTown" (175 : Nat) ({ cls := "TurningTown$Town", name := "areBeside", desc := "(II)Z" } : Jvm.MethodName)) ∈ TT := tt_in (in_3 (List.mem_of_getElem? (i := 123) rfl)) rfl
theorem tw_497 : (Jvm.Cond.code ({ cls := "TurningTown", name := "neighbours", desc := "(II)I" } : Jvm.MethodName) prog_1_method_15_code (4 : Nat) (Option.some Jvm.ClassFile.FieldType.int)) ∈ TT := tt_in (in_3 (List.mem_of_getElem? (i := 122) rfl)) rfl
theorem tw_498 : (Jvm.Cond.instanceMethod ({ cls := "TurningTown", name := "neighbours", desc := "(II)I" } : Jvm.MethodName)) ∈ TT := tt_in (in_3 (List.mem_of_getElem? (i := 120) rfl)) rfl
theorem tw_499 : (Jvm.Cond.selects "TurningTown" ({ cls := "TurningTown", name := "neighbours", desc := "(II)I" } : Jvm.MethodName) ({ cls := "TurningTown", name := "neighbours", desc := "(II)I" } : Jvm.MethodName)) ∈ TT := tt_in (in_3 (List.mem_of_getElem? (i := 121) rfl)) rfl
theorem tw_500 : (Jvm.Cond.methodLink "TurningTown" (178 : Nat) ({ cls := "TurningTown$Town", name := "standsLike", desc := "(LTurningTown$Town;)Z" } : Jvm.MethodName)) ∈ TT := tt_in (in_3 (List.mem_of_getElem? (i := 133) rfl)) rfl
theorem tw_501 : (Jvm.Cond.code ({ cls := "TurningTown", name := "again", desc := "()I" } : Jvm.MethodName) prog_1_method_16_code (2 : Nat) (Option.some Jvm.ClassFile.FieldType.int)) ∈ TT := tt_in (in_3 (List.mem_of_getElem? (i := 132) rfl)) rfl
theorem tw_502 : (Jvm.Cond.instanceMethod ({ cls := "TurningTown", name := "again", desc := "()I" } : Jvm.MethodName)) ∈ TT := tt_in (in_3 (List.mem_of_getElem? (i := 130) rfl)) rfl
theorem tw_503 : (Jvm.Cond.selects "TurningTown" ({ cls := "TurningTown", name := "again", desc := "()I" } : Jvm.MethodName) ({ cls := "TurningTown", name := "again", desc := "()I" } : Jvm.MethodName)) ∈ TT := tt_in (in_3 (List.mem_of_getElem? (i := 131) rfl)) rfl
theorem tw_504 : (Jvm.Cond.methodLink "TurningTown" (182 : Nat) ({ cls := "TurningTown", name := "wayRound", desc := "(II)I" } : Jvm.MethodName)) ∈ TT := tt_in (in_3 (List.mem_of_getElem? (i := 141) rfl)) rfl
theorem tw_505 : (Jvm.Cond.code ({ cls := "TurningTown", name := "post", desc := "(II)I" } : Jvm.MethodName) prog_1_method_17_code (4 : Nat) (Option.some Jvm.ClassFile.FieldType.int)) ∈ TT := tt_in (in_3 (List.mem_of_getElem? (i := 140) rfl)) rfl
theorem tw_506 : (Jvm.Cond.instanceMethod ({ cls := "TurningTown", name := "post", desc := "(II)I" } : Jvm.MethodName)) ∈ TT := tt_in (in_3 (List.mem_of_getElem? (i := 138) rfl)) rfl
theorem tw_507 : (Jvm.Cond.selects "TurningTown" ({ cls := "TurningTown", name := "post", desc := "(II)I" } : Jvm.MethodName) ({ cls := "TurningTown", name := "post", desc := "(II)I" } : Jvm.MethodName)) ∈ TT := tt_in (in_3 (List.mem_of_getElem? (i := 139) rfl)) rfl
theorem tw_508 : (Jvm.Cond.methodLink "TurningTown" (186 : Nat) ({ cls := "TurningTown$Ground", name := "worthUnder", desc := "(LTurningTown$Town;I)I" } : Jvm.MethodName)) ∈ TT := tt_in (in_3 (List.mem_of_getElem? (i := 146) rfl)) rfl
theorem tw_509 : (Jvm.Cond.code ({ cls := "TurningTown", name := "will", desc := "(II)I" } : Jvm.MethodName) prog_1_method_18_code (5 : Nat) (Option.some Jvm.ClassFile.FieldType.int)) ∈ TT := tt_in (in_3 (List.mem_of_getElem? (i := 145) rfl)) rfl
theorem tw_510 : (Jvm.Cond.instanceMethod ({ cls := "TurningTown", name := "will", desc := "(II)I" } : Jvm.MethodName)) ∈ TT := tt_in (in_3 (List.mem_of_getElem? (i := 143) rfl)) rfl
theorem tw_511 : (Jvm.Cond.selects "TurningTown" ({ cls := "TurningTown", name := "will", desc := "(II)I" } : Jvm.MethodName) ({ cls := "TurningTown", name := "will", desc := "(II)I" } : Jvm.MethodName)) ∈ TT := tt_in (in_3 (List.mem_of_getElem? (i := 144) rfl)) rfl
theorem tw_512 : (Jvm.Cond.fieldLink "TurningTown" (190 : Nat) "TurningTown$Trade" "rings" "I") ∈ TT := tt_in (in_1 (List.mem_of_getElem? (i := 176) rfl)) rfl
theorem tw_513 : (Jvm.Cond.code ({ cls := "TurningTown", name := "rings", desc := "()I" } : Jvm.MethodName) prog_1_method_19_code (1 : Nat) (Option.some Jvm.ClassFile.FieldType.int)) ∈ TT := tt_in (in_3 (List.mem_of_getElem? (i := 150) rfl)) rfl
theorem tw_514 : (Jvm.Cond.instanceMethod ({ cls := "TurningTown", name := "rings", desc := "()I" } : Jvm.MethodName)) ∈ TT := tt_in (in_3 (List.mem_of_getElem? (i := 148) rfl)) rfl
theorem tw_515 : (Jvm.Cond.selects "TurningTown" ({ cls := "TurningTown", name := "rings", desc := "()I" } : Jvm.MethodName) ({ cls := "TurningTown", name := "rings", desc := "()I" } : Jvm.MethodName)) ∈ TT := tt_in (in_3 (List.mem_of_getElem? (i := 149) rfl)) rfl
theorem tw_516 : (Jvm.Cond.code ({ cls := "TurningTown", name := "isNoteNight", desc := "(I)Z" } : Jvm.MethodName) prog_1_method_36_code (1 : Nat) (Option.some Jvm.ClassFile.FieldType.boolean)) ∈ TT := tt_in (in_3 (List.mem_of_getElem? (i := 157) rfl)) rfl
theorem tw_517 : (Jvm.Cond.static ({ cls := "TurningTown", name := "isNoteNight", desc := "(I)Z" } : Jvm.MethodName)) ∈ TT := tt_in (in_3 (List.mem_of_getElem? (i := 156) rfl)) rfl
theorem tw_518 : (Jvm.Cond.methodLink "TurningTown" (193 : Nat) ({ cls := "TurningTown", name := "isNoteNight", desc := "(I)Z" } : Jvm.MethodName)) ∈ TT := tt_in (in_3 (List.mem_of_getElem? (i := 155) rfl)) rfl
theorem tw_519 : (Jvm.Cond.fieldLink "TurningTown" (196 : Nat) "TurningTown$Story" "wishes" "LTurningTown$Notes;") ∈ TT := tt_in (in_1 (List.mem_of_getElem? (i := 146) rfl)) rfl
theorem tw_520 : (Jvm.Cond.methodLink "TurningTown" (200 : Nat) ({ cls := "TurningTown$Notes", name := "add", desc := "(III)I" } : Jvm.MethodName)) ∈ TT := tt_in (in_3 (List.mem_of_getElem? (i := 158) rfl)) rfl
theorem tw_521 : (Jvm.Cond.code ({ cls := "TurningTown", name := "wish", desc := "(III)I" } : Jvm.MethodName) prog_1_method_20_code (4 : Nat) (Option.some Jvm.ClassFile.FieldType.int)) ∈ TT := tt_in (in_3 (List.mem_of_getElem? (i := 154) rfl)) rfl
theorem tw_522 : (Jvm.Cond.instanceMethod ({ cls := "TurningTown", name := "wish", desc := "(III)I" } : Jvm.MethodName)) ∈ TT := tt_in (in_3 (List.mem_of_getElem? (i := 152) rfl)) rfl
theorem tw_523 : (Jvm.Cond.selects "TurningTown" ({ cls := "TurningTown", name := "wish", desc := "(III)I" } : Jvm.MethodName) ({ cls := "TurningTown", name := "wish", desc := "(III)I" } : Jvm.MethodName)) ∈ TT := tt_in (in_3 (List.mem_of_getElem? (i := 153) rfl)) rfl
theorem tw_524 : (Jvm.Cond.methodLink "TurningTown" (206 : Nat) ({ cls := "TurningTown$Notes", name := "clear", desc := "()I" } : Jvm.MethodName)) ∈ TT := tt_in (in_3 (List.mem_of_getElem? (i := 166) rfl)) rfl
theorem tw_525 : (Jvm.Cond.code ({ cls := "TurningTown", name := "give", desc := "()I" } : Jvm.MethodName) prog_1_method_21_code (1 : Nat) (Option.some Jvm.ClassFile.FieldType.int)) ∈ TT := tt_in (in_3 (List.mem_of_getElem? (i := 165) rfl)) rfl
theorem tw_526 : (Jvm.Cond.instanceMethod ({ cls := "TurningTown", name := "give", desc := "()I" } : Jvm.MethodName)) ∈ TT := tt_in (in_3 (List.mem_of_getElem? (i := 163) rfl)) rfl
theorem tw_527 : (Jvm.Cond.selects "TurningTown" ({ cls := "TurningTown", name := "give", desc := "()I" } : Jvm.MethodName) ({ cls := "TurningTown", name := "give", desc := "()I" } : Jvm.MethodName)) ∈ TT := tt_in (in_3 (List.mem_of_getElem? (i := 164) rfl)) rfl
theorem tw_528 : (Jvm.Cond.fieldLink "TurningTown" (209 : Nat) "TurningTown" "ordersDone" "I") ∈ TT := tt_in (in_1 (List.mem_of_getElem? (i := 237) rfl)) rfl
theorem tw_529 : (Jvm.Cond.fieldLink "TurningTown" (50 : Nat) "TurningTown" "plan" "LTurningTown$Plan;") ∈ TT := tt_in (in_1 (List.mem_of_getElem? (i := 233) rfl)) rfl
theorem tw_530 : (Jvm.Cond.methodLink "TurningTown" (212 : Nat) ({ cls := "TurningTown$Plan", name := "make", desc := "(LTurningTown$Town;LTurningTown$Notes;)V" } : Jvm.MethodName)) ∈ TT := tt_in (in_3 (List.mem_of_getElem? (i := 171) rfl)) rfl
theorem tw_531 : (Jvm.Cond.fieldLink "TurningTown" (219 : Nat) "TurningTown$Plan" "best" "[I") ∈ TT := tt_in (in_1 (List.mem_of_getElem? (i := 196) rfl)) rfl
theorem tw_532 : (Jvm.Cond.fieldLink "TurningTown" (216 : Nat) "TurningTown$Plan" "most" "I") ∈ TT := tt_in (in_1 (List.mem_of_getElem? (i := 200) rfl)) rfl
theorem tw_533 : (Jvm.Cond.code ({ cls := "TurningTown", name := "order", desc := "(I)I" } : Jvm.MethodName) prog_1_method_22_code (4 : Nat) (Option.some Jvm.ClassFile.FieldType.int)) ∈ TT := tt_in (in_3 (List.mem_of_getElem? (i := 170) rfl)) rfl
theorem tw_534 : (Jvm.Cond.instanceMethod ({ cls := "TurningTown", name := "order", desc := "(I)I" } : Jvm.MethodName)) ∈ TT := tt_in (in_3 (List.mem_of_getElem? (i := 168) rfl)) rfl
theorem tw_535 : (Jvm.Cond.selects "TurningTown" ({ cls := "TurningTown", name := "order", desc := "(I)I" } : Jvm.MethodName) ({ cls := "TurningTown", name := "order", desc := "(I)I" } : Jvm.MethodName)) ∈ TT := tt_in (in_3 (List.mem_of_getElem? (i := 169) rfl)) rfl
theorem tw_536 : (Jvm.Cond.fieldLink "TurningTown" (222 : Nat) "TurningTown$Story" "seen" "LTurningTown$Notes;") ∈ TT := tt_in (in_1 (List.mem_of_getElem? (i := 149) rfl)) rfl
theorem tw_537 : (Jvm.Cond.code ({ cls := "TurningTown", name := "see", desc := "(III)I" } : Jvm.MethodName) prog_1_method_23_code (4 : Nat) (Option.some Jvm.ClassFile.FieldType.int)) ∈ TT := tt_in (in_3 (List.mem_of_getElem? (i := 200) rfl)) rfl
theorem tw_538 : (Jvm.Cond.instanceMethod ({ cls := "TurningTown", name := "see", desc := "(III)I" } : Jvm.MethodName)) ∈ TT := tt_in (in_3 (List.mem_of_getElem? (i := 198) rfl)) rfl
theorem tw_539 : (Jvm.Cond.selects "TurningTown" ({ cls := "TurningTown", name := "see", desc := "(III)I" } : Jvm.MethodName) ({ cls := "TurningTown", name := "see", desc := "(III)I" } : Jvm.MethodName)) ∈ TT := tt_in (in_3 (List.mem_of_getElem? (i := 199) rfl)) rfl
theorem tw_540 : (Jvm.Cond.code ({ cls := "TurningTown", name := "forget", desc := "()I" } : Jvm.MethodName) prog_1_method_24_code (1 : Nat) (Option.some Jvm.ClassFile.FieldType.int)) ∈ TT := tt_in (in_3 (List.mem_of_getElem? (i := 204) rfl)) rfl
theorem tw_541 : (Jvm.Cond.instanceMethod ({ cls := "TurningTown", name := "forget", desc := "()I" } : Jvm.MethodName)) ∈ TT := tt_in (in_3 (List.mem_of_getElem? (i := 202) rfl)) rfl
theorem tw_542 : (Jvm.Cond.selects "TurningTown" ({ cls := "TurningTown", name := "forget", desc := "()I" } : Jvm.MethodName) ({ cls := "TurningTown", name := "forget", desc := "()I" } : Jvm.MethodName)) ∈ TT := tt_in (in_3 (List.mem_of_getElem? (i := 203) rfl)) rfl
theorem tw_543 : (Jvm.Cond.constantLong "TurningTown" (293 : Nat) (1103515245 : Int64)) ∈ TT := tt_in (in_3 (List.mem_of_getElem? (i := 212) rfl)) rfl
theorem tw_544 : (Jvm.Cond.constantLong "TurningTown" (295 : Nat) (12345 : Int64)) ∈ TT := tt_in (in_3 (List.mem_of_getElem? (i := 213) rfl)) rfl
theorem tw_545 : (Jvm.Cond.constantLong "TurningTown" (297 : Nat) (2147483647 : Int64)) ∈ TT := tt_in (in_3 (List.mem_of_getElem? (i := 214) rfl)) rfl
theorem tw_546 : (Jvm.Cond.code ({ cls := "TurningTown", name := "seedBehind", desc := "(I)I" } : Jvm.MethodName) prog_1_method_38_code (1 : Nat) (Option.some Jvm.ClassFile.FieldType.int)) ∈ TT := tt_in (in_3 (List.mem_of_getElem? (i := 211) rfl)) rfl
theorem tw_547 : (Jvm.Cond.static ({ cls := "TurningTown", name := "seedBehind", desc := "(I)I" } : Jvm.MethodName)) ∈ TT := tt_in (in_3 (List.mem_of_getElem? (i := 210) rfl)) rfl
theorem tw_548 : (Jvm.Cond.constant "TurningTown" (299 : Nat) (65536 : Int32)) ∈ TT := tt_in (in_3 (List.mem_of_getElem? (i := 218) rfl)) rfl
theorem tw_549 : (Jvm.Cond.code ({ cls := "TurningTown", name := "snowsBy", desc := "(I)Z" } : Jvm.MethodName) prog_1_method_39_code (1 : Nat) (Option.some Jvm.ClassFile.FieldType.boolean)) ∈ TT := tt_in (in_3 (List.mem_of_getElem? (i := 217) rfl)) rfl
theorem tw_550 : (Jvm.Cond.static ({ cls := "TurningTown", name := "snowsBy", desc := "(I)Z" } : Jvm.MethodName)) ∈ TT := tt_in (in_3 (List.mem_of_getElem? (i := 216) rfl)) rfl
theorem tw_551 : (Jvm.Cond.methodLink "TurningTown" (225 : Nat) ({ cls := "TurningTown", name := "seedBehind", desc := "(I)I" } : Jvm.MethodName)) ∈ TT := tt_in (in_3 (List.mem_of_getElem? (i := 209) rfl)) rfl
theorem tw_552 : (Jvm.Cond.methodLink "TurningTown" (228 : Nat) ({ cls := "TurningTown", name := "snowsBy", desc := "(I)Z" } : Jvm.MethodName)) ∈ TT := tt_in (in_3 (List.mem_of_getElem? (i := 215) rfl)) rfl
theorem tw_553 : (Jvm.Cond.methodLink "TurningTown" (231 : Nat) ({ cls := "TurningTown$Ground", name := "worthUnderAll", desc := "(LTurningTown$Town;)I" } : Jvm.MethodName)) ∈ TT := tt_in (in_3 (List.mem_of_getElem? (i := 219) rfl)) rfl
theorem tw_554 : (Jvm.Cond.code ({ cls := "TurningTown", name := "years", desc := "(III)I" } : Jvm.MethodName) prog_1_method_25_code (8 : Nat) (Option.some Jvm.ClassFile.FieldType.int)) ∈ TT := tt_in (in_3 (List.mem_of_getElem? (i := 208) rfl)) rfl
theorem tw_555 : (Jvm.Cond.instanceMethod ({ cls := "TurningTown", name := "years", desc := "(III)I" } : Jvm.MethodName)) ∈ TT := tt_in (in_3 (List.mem_of_getElem? (i := 206) rfl)) rfl
theorem tw_556 : (Jvm.Cond.selects "TurningTown" ({ cls := "TurningTown", name := "years", desc := "(III)I" } : Jvm.MethodName) ({ cls := "TurningTown", name := "years", desc := "(III)I" } : Jvm.MethodName)) ∈ TT := tt_in (in_3 (List.mem_of_getElem? (i := 207) rfl)) rfl
theorem tw_557 : (Jvm.Cond.fieldLink "TurningTown" (30 : Nat) "TurningTown" "kept" "LTurningTown$Story;") ∈ TT := tt_in (in_1 (List.mem_of_getElem? (i := 230) rfl)) rfl
theorem tw_558 : (Jvm.Cond.methodLink "TurningTown" (235 : Nat) ({ cls := "TurningTown$Story", name := "copyFrom", desc := "(LTurningTown$Story;)V" } : Jvm.MethodName)) ∈ TT := tt_in (in_3 (List.mem_of_getElem? (i := 228) rfl)) rfl
theorem tw_559 : (Jvm.Cond.code ({ cls := "TurningTown", name := "image", desc := "()I" } : Jvm.MethodName) prog_1_method_26_code (1 : Nat) (Option.some Jvm.ClassFile.FieldType.int)) ∈ TT := tt_in (in_3 (List.mem_of_getElem? (i := 227) rfl)) rfl
theorem tw_560 : (Jvm.Cond.instanceMethod ({ cls := "TurningTown", name := "image", desc := "()I" } : Jvm.MethodName)) ∈ TT := tt_in (in_3 (List.mem_of_getElem? (i := 225) rfl)) rfl
theorem tw_561 : (Jvm.Cond.selects "TurningTown" ({ cls := "TurningTown", name := "image", desc := "()I" } : Jvm.MethodName) ({ cls := "TurningTown", name := "image", desc := "()I" } : Jvm.MethodName)) ∈ TT := tt_in (in_3 (List.mem_of_getElem? (i := 226) rfl)) rfl
theorem tw_562 : (Jvm.Cond.code ({ cls := "TurningTown", name := "restore", desc := "()I" } : Jvm.MethodName) prog_1_method_27_code (1 : Nat) (Option.some Jvm.ClassFile.FieldType.int)) ∈ TT := tt_in (in_4 (List.mem_of_getElem? (i := 3) rfl)) rfl
theorem tw_563 : (Jvm.Cond.instanceMethod ({ cls := "TurningTown", name := "restore", desc := "()I" } : Jvm.MethodName)) ∈ TT := tt_in (in_4 (List.mem_of_getElem? (i := 1) rfl)) rfl
theorem tw_564 : (Jvm.Cond.selects "TurningTown" ({ cls := "TurningTown", name := "restore", desc := "()I" } : Jvm.MethodName) ({ cls := "TurningTown", name := "restore", desc := "()I" } : Jvm.MethodName)) ∈ TT := tt_in (in_4 (List.mem_of_getElem? (i := 2) rfl)) rfl
theorem tw_565 : (Jvm.Cond.methodLink "TurningTown" (238 : Nat) ({ cls := "TurningTown$Town", name := "standing", desc := "()I" } : Jvm.MethodName)) ∈ TT := tt_in (in_4 (List.mem_of_getElem? (i := 8) rfl)) rfl
theorem tw_566 : (Jvm.Cond.fieldLink "TurningTown" (241 : Nat) "TurningTown$Town" "front" "I") ∈ TT := tt_in (in_1 (List.mem_of_getElem? (i := 94) rfl)) rfl
theorem tw_567 : (Jvm.Cond.fieldLink "TurningTown" (244 : Nat) "TurningTown$Town" "row" "[I") ∈ TT := tt_in (in_1 (List.mem_of_getElem? (i := 85) rfl)) rfl
theorem tw_568 : (Jvm.Cond.fieldLink "TurningTown" (247 : Nat) "TurningTown$Town" "downFor" "I") ∈ TT := tt_in (in_1 (List.mem_of_getElem? (i := 96) rfl)) rfl
theorem tw_569 : (Jvm.Cond.methodLink "TurningTown" (250 : Nat) ({ cls := "TurningTown$Story", name := "hadByAll", desc := "()I" } : Jvm.MethodName)) ∈ TT := tt_in (in_4 (List.mem_of_getElem? (i := 12) rfl)) rfl
theorem tw_570 : (Jvm.Cond.fieldLink "TurningTown" (253 : Nat) "TurningTown$Notes" "size" "I") ∈ TT := tt_in (in_1 (List.mem_of_getElem? (i := 130) rfl)) rfl
theorem tw_571 : (Jvm.Cond.code ({ cls := "TurningTown", name := "count", desc := "(I)I" } : Jvm.MethodName) prog_1_method_28_code (2 : Nat) (Option.some Jvm.ClassFile.FieldType.int)) ∈ TT := tt_in (in_4 (List.mem_of_getElem? (i := 7) rfl)) rfl
theorem tw_572 : (Jvm.Cond.instanceMethod ({ cls := "TurningTown", name := "count", desc := "(I)I" } : Jvm.MethodName)) ∈ TT := tt_in (in_4 (List.mem_of_getElem? (i := 5) rfl)) rfl
theorem tw_573 : (Jvm.Cond.selects "TurningTown" ({ cls := "TurningTown", name := "count", desc := "(I)I" } : Jvm.MethodName) ({ cls := "TurningTown", name := "count", desc := "(I)I" } : Jvm.MethodName)) ∈ TT := tt_in (in_4 (List.mem_of_getElem? (i := 6) rfl)) rfl
theorem tw_574 : (Jvm.Cond.constantLong "TurningTown" (256 : Nat) (31 : Int64)) ∈ TT := tt_in (in_4 (List.mem_of_getElem? (i := 21) rfl)) rfl
theorem tw_575 : (Jvm.Cond.methodLink "TurningTown" (282 : Nat) ({ cls := "TurningTown", name := "plot", desc := "(II)I" } : Jvm.MethodName)) ∈ TT := tt_in (in_4 (List.mem_of_getElem? (i := 29) rfl)) rfl
theorem tw_576 : (Jvm.Cond.code ({ cls := "TurningTown", name := "withPlots", desc := "(J)J" } : Jvm.MethodName) prog_1_method_30_code (7 : Nat) (Option.some Jvm.ClassFile.FieldType.long)) ∈ TT := tt_in (in_4 (List.mem_of_getElem? (i := 28) rfl)) rfl
theorem tw_577 : (Jvm.Cond.instanceMethod ({ cls := "TurningTown", name := "withPlots", desc := "(J)J" } : Jvm.MethodName)) ∈ TT := tt_in (in_4 (List.mem_of_getElem? (i := 27) rfl)) rfl
theorem tw_578 : (Cond.selects "TurningTown" ⟨"TurningTown", "withPlots", "(J)J"⟩ ⟨"TurningTown", "withPlots", "(J)J"⟩) ∈ TT := tt_in (is_2 (q := (⟨"TurningTown", "withPlots", "(J)J"⟩, 11)) (List.mem_of_getElem? (i := 4) rfl)) rfl
theorem tw_579 : (Jvm.Cond.fieldLink "TurningTown" (276 : Nat) "TurningTown$Page" "letters" "[I") ∈ TT := tt_in (in_1 (List.mem_of_getElem? (i := 33) rfl)) rfl
theorem tw_580 : (Jvm.Cond.methodLink "TurningTown" (279 : Nat) ({ cls := "TurningTown", name := "count", desc := "(I)I" } : Jvm.MethodName)) ∈ TT := tt_in (in_4 (List.mem_of_getElem? (i := 32) rfl)) rfl
theorem tw_581 : (Jvm.Cond.methodLink "TurningTown" (261 : Nat) ({ cls := "TurningTown", name := "where", desc := "(II)I" } : Jvm.MethodName)) ∈ TT := tt_in (in_4 (List.mem_of_getElem? (i := 23) rfl)) rfl
theorem tw_582 : (Jvm.Cond.methodLink "TurningTown" (264 : Nat) ({ cls := "TurningTown", name := "will", desc := "(II)I" } : Jvm.MethodName)) ∈ TT := tt_in (in_4 (List.mem_of_getElem? (i := 24) rfl)) rfl
theorem tw_583 : (Jvm.Cond.methodLink "TurningTown" (258 : Nat) ({ cls := "TurningTown", name := "house", desc := "(II)I" } : Jvm.MethodName)) ∈ TT := tt_in (in_4 (List.mem_of_getElem? (i := 22) rfl)) rfl
theorem tw_584 : (Jvm.Cond.methodLink "TurningTown" (267 : Nat) ({ cls := "TurningTown", name := "withPlots", desc := "(J)J" } : Jvm.MethodName)) ∈ TT := tt_in (in_4 (List.mem_of_getElem? (i := 25) rfl)) rfl
theorem tw_585 : (Jvm.Cond.methodLink "TurningTown" (271 : Nat) ({ cls := "TurningTown", name := "again", desc := "()I" } : Jvm.MethodName)) ∈ TT := tt_in (in_4 (List.mem_of_getElem? (i := 30) rfl)) rfl
theorem tw_586 : (Jvm.Cond.methodLink "TurningTown" (274 : Nat) ({ cls := "TurningTown", name := "rings", desc := "()I" } : Jvm.MethodName)) ∈ TT := tt_in (in_4 (List.mem_of_getElem? (i := 31) rfl)) rfl
theorem tw_587 : (Jvm.Cond.constantLong "TurningTown" (254 : Nat) (1193 : Int64)) ∈ TT := tt_in (in_4 (List.mem_of_getElem? (i := 20) rfl)) rfl
theorem tw_588 : (Jvm.Cond.code ({ cls := "TurningTown", name := "digest", desc := "()J" } : Jvm.MethodName) prog_1_method_29_code (5 : Nat) (Option.some Jvm.ClassFile.FieldType.long)) ∈ TT := tt_in (in_4 (List.mem_of_getElem? (i := 19) rfl)) rfl
theorem tw_589 : (Jvm.Cond.instanceMethod ({ cls := "TurningTown", name := "digest", desc := "()J" } : Jvm.MethodName)) ∈ TT := tt_in (in_4 (List.mem_of_getElem? (i := 17) rfl)) rfl
theorem tw_590 : (Jvm.Cond.selects "TurningTown" ({ cls := "TurningTown", name := "digest", desc := "()J" } : Jvm.MethodName) ({ cls := "TurningTown", name := "digest", desc := "()J" } : Jvm.MethodName)) ∈ TT := tt_in (in_4 (List.mem_of_getElem? (i := 18) rfl)) rfl
theorem tw_591 : (Jvm.Cond.code ({ cls := "TurningTownModel", name := "in", desc := "(JJJ)Z" } : Jvm.MethodName) prog_11_method_2_code (6 : Nat) (Option.some Jvm.ClassFile.FieldType.boolean)) ∈ TT := tt_in (in_4 (List.mem_of_getElem? (i := 176) rfl)) rfl
theorem tw_592 : (Jvm.Cond.static ({ cls := "TurningTownModel", name := "in", desc := "(JJJ)Z" } : Jvm.MethodName)) ∈ TT := tt_in (in_4 (List.mem_of_getElem? (i := 175) rfl)) rfl
theorem tw_593 : (Jvm.Cond.initialized "TurningTownModel") ∈ TT := tt_in (in_1 (List.mem_of_getElem? (i := 11) rfl)) rfl
theorem tw_594 : (Jvm.Cond.code ({ cls := "TurningTownModel", name := "copy", desc := "([I[I)V" } : Jvm.MethodName) prog_11_method_3_code (3 : Nat) (Option.none : Option Jvm.ClassFile.FieldType)) ∈ TT := tt_in (in_4 (List.mem_of_getElem? (i := 217) rfl)) rfl
theorem tw_595 : (Jvm.Cond.static ({ cls := "TurningTownModel", name := "copy", desc := "([I[I)V" } : Jvm.MethodName)) ∈ TT := tt_in (in_4 (List.mem_of_getElem? (i := 216) rfl)) rfl
theorem tw_596 : (Jvm.Cond.code ({ cls := "TurningTownModel", name := "round", desc := "(II)I" } : Jvm.MethodName) prog_11_method_4_code (3 : Nat) (Option.some Jvm.ClassFile.FieldType.int)) ∈ TT := tt_in (in_5 (List.mem_of_getElem? (i := 69) rfl)) rfl
theorem tw_597 : (Jvm.Cond.static ({ cls := "TurningTownModel", name := "round", desc := "(II)I" } : Jvm.MethodName)) ∈ TT := tt_in (in_5 (List.mem_of_getElem? (i := 68) rfl)) rfl
theorem tw_598 : (Jvm.Cond.constantLong "TurningTownModel" (83 : Nat) (126 : Int64)) ∈ TT := tt_in (in_4 (List.mem_of_getElem? (i := 173) rfl)) rfl
theorem tw_599 : (Jvm.Cond.methodLink "TurningTownModel" (85 : Nat) ({ cls := "TurningTownModel", name := "in", desc := "(JJJ)Z" } : Jvm.MethodName)) ∈ TT := tt_in (in_4 (List.mem_of_getElem? (i := 174) rfl)) rfl
theorem tw_600 : (Jvm.Cond.fieldLink "TurningTownModel" (89 : Nat) "TurningTownModel" "pageMany" "I") ∈ TT := tt_in (in_4 (List.mem_of_getElem? (i := 40) rfl)) rfl
theorem tw_601 : (Jvm.Cond.fieldLink "TurningTownModel" (7 : Nat) "TurningTownModel" "page" "[I") ∈ TT := tt_in (in_4 (List.mem_of_getElem? (i := 39) rfl)) rfl
theorem tw_602 : (Jvm.Cond.code ({ cls := "TurningTownModel", name := "letter", desc := "(I)I" } : Jvm.MethodName) prog_11_method_5_code (2 : Nat) (Option.some Jvm.ClassFile.FieldType.int)) ∈ TT := tt_in (in_4 (List.mem_of_getElem? (i := 172) rfl)) rfl
theorem tw_603 : (Jvm.Cond.instanceMethod ({ cls := "TurningTownModel", name := "letter", desc := "(I)I" } : Jvm.MethodName)) ∈ TT := tt_in (in_4 (List.mem_of_getElem? (i := 170) rfl)) rfl
theorem tw_604 : (Jvm.Cond.selects "TurningTownModel" ({ cls := "TurningTownModel", name := "letter", desc := "(I)I" } : Jvm.MethodName) ({ cls := "TurningTownModel", name := "letter", desc := "(I)I" } : Jvm.MethodName)) ∈ TT := tt_in (in_4 (List.mem_of_getElem? (i := 171) rfl)) rfl
theorem tw_605 : (Jvm.Cond.code ({ cls := "TurningTownModel", name := "blank", desc := "()I" } : Jvm.MethodName) prog_11_method_6_code (2 : Nat) (Option.some Jvm.ClassFile.FieldType.int)) ∈ TT := tt_in (in_4 (List.mem_of_getElem? (i := 180) rfl)) rfl
theorem tw_606 : (Jvm.Cond.instanceMethod ({ cls := "TurningTownModel", name := "blank", desc := "()I" } : Jvm.MethodName)) ∈ TT := tt_in (in_4 (List.mem_of_getElem? (i := 178) rfl)) rfl
theorem tw_607 : (Jvm.Cond.selects "TurningTownModel" ({ cls := "TurningTownModel", name := "blank", desc := "()I" } : Jvm.MethodName) ({ cls := "TurningTownModel", name := "blank", desc := "()I" } : Jvm.MethodName)) ∈ TT := tt_in (in_4 (List.mem_of_getElem? (i := 179) rfl)) rfl
theorem tw_608 : (Jvm.Cond.code ({ cls := "TurningTownModel", name := "kindBy", desc := "(I)I" } : Jvm.MethodName) prog_11_method_7_code (1 : Nat) (Option.some Jvm.ClassFile.FieldType.int)) ∈ TT := tt_in (in_4 (List.mem_of_getElem? (i := 196) rfl)) rfl
theorem tw_609 : (Jvm.Cond.static ({ cls := "TurningTownModel", name := "kindBy", desc := "(I)I" } : Jvm.MethodName)) ∈ TT := tt_in (in_4 (List.mem_of_getElem? (i := 195) rfl)) rfl
theorem tw_610 : (Jvm.Cond.methodLink "TurningTownModel" (96 : Nat) ({ cls := "TurningTownModel", name := "kindBy", desc := "(I)I" } : Jvm.MethodName)) ∈ TT := tt_in (in_4 (List.mem_of_getElem? (i := 194) rfl)) rfl
theorem tw_611 : (Jvm.Cond.constantLong "TurningTownModel" (100 : Nat) (97 : Int64)) ∈ TT := tt_in (in_4 (List.mem_of_getElem? (i := 197) rfl)) rfl
theorem tw_612 : (Jvm.Cond.constantLong "TurningTownModel" (102 : Nat) (108 : Int64)) ∈ TT := tt_in (in_4 (List.mem_of_getElem? (i := 198) rfl)) rfl
theorem tw_613 : (Jvm.Cond.constantLong "TurningTownModel" (92 : Nat) (48 : Int64)) ∈ TT := tt_in (in_4 (List.mem_of_getElem? (i := 192) rfl)) rfl
theorem tw_614 : (Jvm.Cond.constantLong "TurningTownModel" (94 : Nat) (57 : Int64)) ∈ TT := tt_in (in_4 (List.mem_of_getElem? (i := 193) rfl)) rfl
theorem tw_615 : (Jvm.Cond.code ({ cls := "TurningTownModel", name := "isGood", desc := "(II)Z" } : Jvm.MethodName) prog_11_method_8_code (2 : Nat) (Option.some Jvm.ClassFile.FieldType.boolean)) ∈ TT := tt_in (in_4 (List.mem_of_getElem? (i := 191) rfl)) rfl
theorem tw_616 : (Jvm.Cond.static ({ cls := "TurningTownModel", name := "isGood", desc := "(II)Z" } : Jvm.MethodName)) ∈ TT := tt_in (in_4 (List.mem_of_getElem? (i := 190) rfl)) rfl
theorem tw_617 : (Jvm.Cond.methodLink "TurningTownModel" (104 : Nat) ({ cls := "TurningTownModel", name := "isGood", desc := "(II)Z" } : Jvm.MethodName)) ∈ TT := tt_in (in_4 (List.mem_of_getElem? (i := 189) rfl)) rfl
theorem tw_618 : (Jvm.Cond.code ({ cls := "TurningTownModel", name := "faultOf", desc := "()I" } : Jvm.MethodName) prog_11_method_9_code (2 : Nat) (Option.some Jvm.ClassFile.FieldType.int)) ∈ TT := tt_in (in_4 (List.mem_of_getElem? (i := 188) rfl)) rfl
theorem tw_619 : (Jvm.Cond.instanceMethod ({ cls := "TurningTownModel", name := "faultOf", desc := "()I" } : Jvm.MethodName)) ∈ TT := tt_in (in_4 (List.mem_of_getElem? (i := 187) rfl)) rfl
theorem tw_620 : (Cond.selects "TurningTownModel" ⟨"TurningTownModel", "faultOf", "()I"⟩ ⟨"TurningTownModel", "faultOf", "()I"⟩) ∈ TT := tt_in (is_2 (q := (⟨"TurningTownModel", "faultOf", "()I"⟩, 43)) (List.mem_of_getElem? (i := 5) rfl)) rfl
theorem tw_621 : (Jvm.Cond.methodLink "TurningTownModel" (108 : Nat) ({ cls := "TurningTownModel", name := "faultOf", desc := "()I" } : Jvm.MethodName)) ∈ TT := tt_in (in_4 (List.mem_of_getElem? (i := 185) rfl)) rfl
theorem tw_622 : (Jvm.Cond.code ({ cls := "TurningTownModel", name := "fault", desc := "()I" } : Jvm.MethodName) prog_11_method_10_code (1 : Nat) (Option.some Jvm.ClassFile.FieldType.int)) ∈ TT := tt_in (in_4 (List.mem_of_getElem? (i := 184) rfl)) rfl
theorem tw_623 : (Jvm.Cond.instanceMethod ({ cls := "TurningTownModel", name := "fault", desc := "()I" } : Jvm.MethodName)) ∈ TT := tt_in (in_4 (List.mem_of_getElem? (i := 182) rfl)) rfl
theorem tw_624 : (Jvm.Cond.selects "TurningTownModel" ({ cls := "TurningTownModel", name := "fault", desc := "()I" } : Jvm.MethodName) ({ cls := "TurningTownModel", name := "fault", desc := "()I" } : Jvm.MethodName)) ∈ TT := tt_in (in_4 (List.mem_of_getElem? (i := 183) rfl)) rfl
theorem tw_625 : (Jvm.Cond.fieldLink "TurningTownModel" (112 : Nat) "TurningTownModel" "houses" "I") ∈ TT := tt_in (in_4 (List.mem_of_getElem? (i := 41) rfl)) rfl
theorem tw_626 : (Jvm.Cond.fieldLink "TurningTownModel" (115 : Nat) "TurningTownModel" "front" "I") ∈ TT := tt_in (in_4 (List.mem_of_getElem? (i := 50) rfl)) rfl
theorem tw_627 : (Jvm.Cond.fieldLink "TurningTownModel" (118 : Nat) "TurningTownModel" "down" "I") ∈ TT := tt_in (in_4 (List.mem_of_getElem? (i := 51) rfl)) rfl
theorem tw_628 : (Jvm.Cond.fieldLink "TurningTownModel" (121 : Nat) "TurningTownModel" "nights" "I") ∈ TT := tt_in (in_4 (List.mem_of_getElem? (i := 42) rfl)) rfl
theorem tw_629 : (Jvm.Cond.fieldLink "TurningTownModel" (124 : Nat) "TurningTownModel" "wishesMany" "I") ∈ TT := tt_in (in_4 (List.mem_of_getElem? (i := 60) rfl)) rfl
theorem tw_630 : (Jvm.Cond.fieldLink "TurningTownModel" (127 : Nat) "TurningTownModel" "seenMany" "I") ∈ TT := tt_in (in_4 (List.mem_of_getElem? (i := 65) rfl)) rfl
theorem tw_631 : (Jvm.Cond.fieldLink "TurningTownModel" (130 : Nat) "TurningTownModel" "squaresRead" "I") ∈ TT := tt_in (in_4 (List.mem_of_getElem? (i := 43) rfl)) rfl
theorem tw_632 : (Jvm.Cond.fieldLink "TurningTownModel" (16 : Nat) "TurningTownModel" "kinds" "[I") ∈ TT := tt_in (in_4 (List.mem_of_getElem? (i := 45) rfl)) rfl
theorem tw_633 : (Jvm.Cond.fieldLink "TurningTownModel" (19 : Nat) "TurningTownModel" "likes" "[I") ∈ TT := tt_in (in_4 (List.mem_of_getElem? (i := 46) rfl)) rfl
theorem tw_634 : (Jvm.Cond.fieldLink "TurningTownModel" (22 : Nat) "TurningTownModel" "had" "[I") ∈ TT := tt_in (in_4 (List.mem_of_getElem? (i := 47) rfl)) rfl
theorem tw_635 : (Jvm.Cond.fieldLink "TurningTownModel" (25 : Nat) "TurningTownModel" "plots" "[I") ∈ TT := tt_in (in_4 (List.mem_of_getElem? (i := 48) rfl)) rfl
theorem tw_636 : (Jvm.Cond.fieldLink "TurningTownModel" (28 : Nat) "TurningTownModel" "row" "[I") ∈ TT := tt_in (in_4 (List.mem_of_getElem? (i := 49) rfl)) rfl
theorem tw_637 : (Jvm.Cond.fieldLink "TurningTownModel" (13 : Nat) "TurningTownModel" "worths" "[I") ∈ TT := tt_in (in_4 (List.mem_of_getElem? (i := 44) rfl)) rfl
theorem tw_638 : (Jvm.Cond.code ({ cls := "TurningTownModel", name := "square", desc := "()I" } : Jvm.MethodName) prog_11_method_11_code (2 : Nat) (Option.some Jvm.ClassFile.FieldType.int)) ∈ TT := tt_in (in_4 (List.mem_of_getElem? (i := 202) rfl)) rfl
theorem tw_639 : (Jvm.Cond.instanceMethod ({ cls := "TurningTownModel", name := "square", desc := "()I" } : Jvm.MethodName)) ∈ TT := tt_in (in_4 (List.mem_of_getElem? (i := 200) rfl)) rfl
theorem tw_640 : (Jvm.Cond.selects "TurningTownModel" ({ cls := "TurningTownModel", name := "square", desc := "()I" } : Jvm.MethodName) ({ cls := "TurningTownModel", name := "square", desc := "()I" } : Jvm.MethodName)) ∈ TT := tt_in (in_4 (List.mem_of_getElem? (i := 201) rfl)) rfl
theorem tw_641 : (Jvm.Cond.code ({ cls := "TurningTownModel", name := "lacks", desc := "()Z" } : Jvm.MethodName) prog_11_method_12_code (1 : Nat) (Option.some Jvm.ClassFile.FieldType.boolean)) ∈ TT := tt_in (in_4 (List.mem_of_getElem? (i := 210) rfl)) rfl
theorem tw_642 : (Jvm.Cond.instanceMethod ({ cls := "TurningTownModel", name := "lacks", desc := "()Z" } : Jvm.MethodName)) ∈ TT := tt_in (in_4 (List.mem_of_getElem? (i := 209) rfl)) rfl
theorem tw_643 : (Cond.selects "TurningTownModel" ⟨"TurningTownModel", "lacks", "()Z"⟩ ⟨"TurningTownModel", "lacks", "()Z"⟩) ∈ TT := tt_in (is_2 (q := (⟨"TurningTownModel", "lacks", "()Z"⟩, 43)) (List.mem_of_getElem? (i := 6) rfl)) rfl
theorem tw_644 : (Jvm.Cond.code ({ cls := "TurningTownModel", name := "isHouse", desc := "(I)Z" } : Jvm.MethodName) prog_11_method_13_code (2 : Nat) (Option.some Jvm.ClassFile.FieldType.boolean)) ∈ TT := tt_in (in_5 (List.mem_of_getElem? (i := 13) rfl)) rfl
theorem tw_645 : (Jvm.Cond.instanceMethod ({ cls := "TurningTownModel", name := "isHouse", desc := "(I)Z" } : Jvm.MethodName)) ∈ TT := tt_in (in_5 (List.mem_of_getElem? (i := 12) rfl)) rfl
theorem tw_646 : (Cond.selects "TurningTownModel" ⟨"TurningTownModel", "isHouse", "(I)Z"⟩ ⟨"TurningTownModel", "isHouse", "(I)Z"⟩) ∈ TT := tt_in (is_2 (q := (⟨"TurningTownModel", "isHouse", "(I)Z"⟩, 43)) (List.mem_of_getElem? (i := 14) rfl)) rfl
theorem tw_647 : (Jvm.Cond.methodLink "TurningTownModel" (133 : Nat) ({ cls := "TurningTownModel", name := "isHouse", desc := "(I)Z" } : Jvm.MethodName)) ∈ TT := tt_in (in_5 (List.mem_of_getElem? (i := 10) rfl)) rfl
theorem tw_648 : (Jvm.Cond.code ({ cls := "TurningTownModel", name := "areTwo", desc := "(II)Z" } : Jvm.MethodName) prog_11_method_14_code (3 : Nat) (Option.some Jvm.ClassFile.FieldType.boolean)) ∈ TT := tt_in (in_5 (List.mem_of_getElem? (i := 22) rfl)) rfl
theorem tw_649 : (Jvm.Cond.instanceMethod ({ cls := "TurningTownModel", name := "areTwo", desc := "(II)Z" } : Jvm.MethodName)) ∈ TT := tt_in (in_5 (List.mem_of_getElem? (i := 21) rfl)) rfl
theorem tw_650 : (Cond.selects "TurningTownModel" ⟨"TurningTownModel", "areTwo", "(II)Z"⟩ ⟨"TurningTownModel", "areTwo", "(II)Z"⟩) ∈ TT := tt_in (is_2 (q := (⟨"TurningTownModel", "areTwo", "(II)Z"⟩, 43)) (List.mem_of_getElem? (i := 15) rfl)) rfl
theorem tw_651 : (Jvm.Cond.constantLong "TurningTownModel" (137 : Nat) (11 : Int64)) ∈ TT := tt_in (in_5 (List.mem_of_getElem? (i := 89) rfl)) rfl
theorem tw_652 : (Jvm.Cond.code ({ cls := "TurningTownModel", name := "isPlot", desc := "(I)Z" } : Jvm.MethodName) prog_11_method_15_code (1 : Nat) (Option.some Jvm.ClassFile.FieldType.boolean)) ∈ TT := tt_in (in_5 (List.mem_of_getElem? (i := 88) rfl)) rfl
theorem tw_653 : (Jvm.Cond.static ({ cls := "TurningTownModel", name := "isPlot", desc := "(I)Z" } : Jvm.MethodName)) ∈ TT := tt_in (in_5 (List.mem_of_getElem? (i := 87) rfl)) rfl
theorem tw_654 : (Jvm.Cond.fieldLink "TurningTownModel" (31 : Nat) "TurningTownModel" "plotsThen" "[I") ∈ TT := tt_in (in_4 (List.mem_of_getElem? (i := 52) rfl)) rfl
theorem tw_655 : (Jvm.Cond.methodLink "TurningTownModel" (139 : Nat) ({ cls := "TurningTownModel", name := "copy", desc := "([I[I)V" } : Jvm.MethodName)) ∈ TT := tt_in (in_4 (List.mem_of_getElem? (i := 215) rfl)) rfl
theorem tw_656 : (Jvm.Cond.fieldLink "TurningTownModel" (34 : Nat) "TurningTownModel" "rowThen" "[I") ∈ TT := tt_in (in_4 (List.mem_of_getElem? (i := 53) rfl)) rfl
theorem tw_657 : (Jvm.Cond.fieldLink "TurningTownModel" (143 : Nat) "TurningTownModel" "frontThen" "I") ∈ TT := tt_in (in_4 (List.mem_of_getElem? (i := 54) rfl)) rfl
theorem tw_658 : (Jvm.Cond.fieldLink "TurningTownModel" (146 : Nat) "TurningTownModel" "downThen" "I") ∈ TT := tt_in (in_4 (List.mem_of_getElem? (i := 55) rfl)) rfl
theorem tw_659 : (Jvm.Cond.code ({ cls := "TurningTownModel", name := "begin", desc := "()V" } : Jvm.MethodName) prog_11_method_16_code (1 : Nat) (Option.none : Option Jvm.ClassFile.FieldType)) ∈ TT := tt_in (in_4 (List.mem_of_getElem? (i := 214) rfl)) rfl
theorem tw_660 : (Jvm.Cond.instanceMethod ({ cls := "TurningTownModel", name := "begin", desc := "()V" } : Jvm.MethodName)) ∈ TT := tt_in (in_4 (List.mem_of_getElem? (i := 213) rfl)) rfl
theorem tw_661 : (Cond.selects "TurningTownModel" ⟨"TurningTownModel", "begin", "()V"⟩ ⟨"TurningTownModel", "begin", "()V"⟩) ∈ TT := tt_in (is_2 (q := (⟨"TurningTownModel", "begin", "()V"⟩, 43)) (List.mem_of_getElem? (i := 7) rfl)) rfl
theorem tw_662 : (Jvm.Cond.code ({ cls := "TurningTownModel", name := "takeThen", desc := "()V" } : Jvm.MethodName) prog_11_method_17_code (1 : Nat) (Option.none : Option Jvm.ClassFile.FieldType)) ∈ TT := tt_in (in_4 (List.mem_of_getElem? (i := 233) rfl)) rfl
theorem tw_663 : (Jvm.Cond.instanceMethod ({ cls := "TurningTownModel", name := "takeThen", desc := "()V" } : Jvm.MethodName)) ∈ TT := tt_in (in_4 (List.mem_of_getElem? (i := 232) rfl)) rfl
theorem tw_664 : (Cond.selects "TurningTownModel" ⟨"TurningTownModel", "takeThen", "()V"⟩ ⟨"TurningTownModel", "takeThen", "()V"⟩) ∈ TT := tt_in (is_2 (q := (⟨"TurningTownModel", "takeThen", "()V"⟩, 43)) (List.mem_of_getElem? (i := 11) rfl)) rfl
theorem tw_665 : (Jvm.Cond.code ({ cls := "TurningTownModel", name := "onThen", desc := "(I)I" } : Jvm.MethodName) prog_11_method_18_code (3 : Nat) (Option.some Jvm.ClassFile.FieldType.int)) ∈ TT := tt_in (in_4 (List.mem_of_getElem? (i := 229) rfl)) rfl
theorem tw_666 : (Jvm.Cond.instanceMethod ({ cls := "TurningTownModel", name := "onThen", desc := "(I)I" } : Jvm.MethodName)) ∈ TT := tt_in (in_4 (List.mem_of_getElem? (i := 228) rfl)) rfl
theorem tw_667 : (Cond.selects "TurningTownModel" ⟨"TurningTownModel", "onThen", "(I)I"⟩ ⟨"TurningTownModel", "onThen", "(I)I"⟩) ∈ TT := tt_in (is_2 (q := (⟨"TurningTownModel", "onThen", "(I)I"⟩, 43)) (List.mem_of_getElem? (i := 10) rfl)) rfl
theorem tw_668 : (Jvm.Cond.methodLink "TurningTownModel" (149 : Nat) ({ cls := "TurningTownModel", name := "onThen", desc := "(I)I" } : Jvm.MethodName)) ∈ TT := tt_in (in_4 (List.mem_of_getElem? (i := 226) rfl)) rfl
theorem tw_669 : (Jvm.Cond.code ({ cls := "TurningTownModel", name := "putUp", desc := "()V" } : Jvm.MethodName) prog_11_method_19_code (5 : Nat) (Option.none : Option Jvm.ClassFile.FieldType)) ∈ TT := tt_in (in_4 (List.mem_of_getElem? (i := 225) rfl)) rfl
theorem tw_670 : (Jvm.Cond.instanceMethod ({ cls := "TurningTownModel", name := "putUp", desc := "()V" } : Jvm.MethodName)) ∈ TT := tt_in (in_4 (List.mem_of_getElem? (i := 224) rfl)) rfl
theorem tw_671 : (Cond.selects "TurningTownModel" ⟨"TurningTownModel", "putUp", "()V"⟩ ⟨"TurningTownModel", "putUp", "()V"⟩) ∈ TT := tt_in (is_2 (q := (⟨"TurningTownModel", "putUp", "()V"⟩, 43)) (List.mem_of_getElem? (i := 9) rfl)) rfl
theorem tw_672 : (Jvm.Cond.methodLink "TurningTownModel" (152 : Nat) ({ cls := "TurningTownModel", name := "putUp", desc := "()V" } : Jvm.MethodName)) ∈ TT := tt_in (in_4 (List.mem_of_getElem? (i := 222) rfl)) rfl
theorem tw_673 : (Jvm.Cond.code ({ cls := "TurningTownModel", name := "goOn", desc := "()I" } : Jvm.MethodName) prog_11_method_20_code (2 : Nat) (Option.some Jvm.ClassFile.FieldType.int)) ∈ TT := tt_in (in_4 (List.mem_of_getElem? (i := 221) rfl)) rfl
theorem tw_674 : (Jvm.Cond.instanceMethod ({ cls := "TurningTownModel", name := "goOn", desc := "()I" } : Jvm.MethodName)) ∈ TT := tt_in (in_4 (List.mem_of_getElem? (i := 220) rfl)) rfl
theorem tw_675 : (Cond.selects "TurningTownModel" ⟨"TurningTownModel", "goOn", "()I"⟩ ⟨"TurningTownModel", "goOn", "()I"⟩) ∈ TT := tt_in (is_2 (q := (⟨"TurningTownModel", "goOn", "()I"⟩, 43)) (List.mem_of_getElem? (i := 8) rfl)) rfl
theorem tw_676 : (Jvm.Cond.code ({ cls := "TurningTownModel", name := "worthOf", desc := "(I)I" } : Jvm.MethodName) prog_11_method_21_code (2 : Nat) (Option.some Jvm.ClassFile.FieldType.int)) ∈ TT := tt_in (in_5 (List.mem_of_getElem? (i := 1) rfl)) rfl
theorem tw_677 : (Jvm.Cond.instanceMethod ({ cls := "TurningTownModel", name := "worthOf", desc := "(I)I" } : Jvm.MethodName)) ∈ TT := tt_in (in_5 (List.mem_of_getElem? (i := 0) rfl)) rfl
theorem tw_678 : (Cond.selects "TurningTownModel" ⟨"TurningTownModel", "worthOf", "(I)I"⟩ ⟨"TurningTownModel", "worthOf", "(I)I"⟩) ∈ TT := tt_in (is_2 (q := (⟨"TurningTownModel", "worthOf", "(I)I"⟩, 43)) (List.mem_of_getElem? (i := 13) rfl)) rfl
theorem tw_679 : (Jvm.Cond.methodLink "TurningTownModel" (155 : Nat) ({ cls := "TurningTownModel", name := "worthOf", desc := "(I)I" } : Jvm.MethodName)) ∈ TT := tt_in (in_4 (List.mem_of_getElem? (i := 238) rfl)) rfl
theorem tw_680 : (Jvm.Cond.code ({ cls := "TurningTownModel", name := "have", desc := "()V" } : Jvm.MethodName) prog_11_method_22_code (2 : Nat) (Option.none : Option Jvm.ClassFile.FieldType)) ∈ TT := tt_in (in_4 (List.mem_of_getElem? (i := 237) rfl)) rfl
theorem tw_681 : (Jvm.Cond.instanceMethod ({ cls := "TurningTownModel", name := "have", desc := "()V" } : Jvm.MethodName)) ∈ TT := tt_in (in_4 (List.mem_of_getElem? (i := 236) rfl)) rfl
theorem tw_682 : (Cond.selects "TurningTownModel" ⟨"TurningTownModel", "have", "()V"⟩ ⟨"TurningTownModel", "have", "()V"⟩) ∈ TT := tt_in (is_2 (q := (⟨"TurningTownModel", "have", "()V"⟩, 43)) (List.mem_of_getElem? (i := 12) rfl)) rfl
theorem tw_683 : (Jvm.Cond.methodLink "TurningTownModel" (158 : Nat) ({ cls := "TurningTownModel", name := "lacks", desc := "()Z" } : Jvm.MethodName)) ∈ TT := tt_in (in_4 (List.mem_of_getElem? (i := 207) rfl)) rfl
theorem tw_684 : (Jvm.Cond.methodLink "TurningTownModel" (162 : Nat) ({ cls := "TurningTownModel", name := "begin", desc := "()V" } : Jvm.MethodName)) ∈ TT := tt_in (in_4 (List.mem_of_getElem? (i := 211) rfl)) rfl
theorem tw_685 : (Jvm.Cond.methodLink "TurningTownModel" (165 : Nat) ({ cls := "TurningTownModel", name := "goOn", desc := "()I" } : Jvm.MethodName)) ∈ TT := tt_in (in_4 (List.mem_of_getElem? (i := 218) rfl)) rfl
theorem tw_686 : (Jvm.Cond.methodLink "TurningTownModel" (168 : Nat) ({ cls := "TurningTownModel", name := "takeThen", desc := "()V" } : Jvm.MethodName)) ∈ TT := tt_in (in_4 (List.mem_of_getElem? (i := 230) rfl)) rfl
theorem tw_687 : (Jvm.Cond.methodLink "TurningTownModel" (171 : Nat) ({ cls := "TurningTownModel", name := "have", desc := "()V" } : Jvm.MethodName)) ∈ TT := tt_in (in_4 (List.mem_of_getElem? (i := 234) rfl)) rfl
theorem tw_688 : (Jvm.Cond.code ({ cls := "TurningTownModel", name := "night", desc := "()I" } : Jvm.MethodName) prog_11_method_23_code (2 : Nat) (Option.some Jvm.ClassFile.FieldType.int)) ∈ TT := tt_in (in_4 (List.mem_of_getElem? (i := 206) rfl)) rfl
theorem tw_689 : (Jvm.Cond.instanceMethod ({ cls := "TurningTownModel", name := "night", desc := "()I" } : Jvm.MethodName)) ∈ TT := tt_in (in_4 (List.mem_of_getElem? (i := 204) rfl)) rfl
theorem tw_690 : (Jvm.Cond.selects "TurningTownModel" ({ cls := "TurningTownModel", name := "night", desc := "()I" } : Jvm.MethodName) ({ cls := "TurningTownModel", name := "night", desc := "()I" } : Jvm.MethodName)) ∈ TT := tt_in (in_4 (List.mem_of_getElem? (i := 205) rfl)) rfl
theorem tw_691 : (Jvm.Cond.code ({ cls := "TurningTownModel", name := "snow", desc := "()I" } : Jvm.MethodName) prog_11_method_24_code (1 : Nat) (Option.some Jvm.ClassFile.FieldType.int)) ∈ TT := tt_in (in_5 (List.mem_of_getElem? (i := 5) rfl)) rfl
theorem tw_692 : (Jvm.Cond.instanceMethod ({ cls := "TurningTownModel", name := "snow", desc := "()I" } : Jvm.MethodName)) ∈ TT := tt_in (in_5 (List.mem_of_getElem? (i := 3) rfl)) rfl
theorem tw_693 : (Jvm.Cond.selects "TurningTownModel" ({ cls := "TurningTownModel", name := "snow", desc := "()I" } : Jvm.MethodName) ({ cls := "TurningTownModel", name := "snow", desc := "()I" } : Jvm.MethodName)) ∈ TT := tt_in (in_5 (List.mem_of_getElem? (i := 4) rfl)) rfl
theorem tw_694 : (Jvm.Cond.constantLong "TurningTownModel" (174 : Nat) (4 : Int64)) ∈ TT := tt_in (in_5 (List.mem_of_getElem? (i := 14) rfl)) rfl
theorem tw_695 : (Jvm.Cond.code ({ cls := "TurningTownModel", name := "build", desc := "(II)I" } : Jvm.MethodName) prog_11_method_25_code (4 : Nat) (Option.some Jvm.ClassFile.FieldType.int)) ∈ TT := tt_in (in_5 (List.mem_of_getElem? (i := 9) rfl)) rfl
theorem tw_696 : (Jvm.Cond.instanceMethod ({ cls := "TurningTownModel", name := "build", desc := "(II)I" } : Jvm.MethodName)) ∈ TT := tt_in (in_5 (List.mem_of_getElem? (i := 7) rfl)) rfl
theorem tw_697 : (Jvm.Cond.selects "TurningTownModel" ({ cls := "TurningTownModel", name := "build", desc := "(II)I" } : Jvm.MethodName) ({ cls := "TurningTownModel", name := "build", desc := "(II)I" } : Jvm.MethodName)) ∈ TT := tt_in (in_5 (List.mem_of_getElem? (i := 8) rfl)) rfl
theorem tw_698 : (Jvm.Cond.methodLink "TurningTownModel" (176 : Nat) ({ cls := "TurningTownModel", name := "areTwo", desc := "(II)Z" } : Jvm.MethodName)) ∈ TT := tt_in (in_5 (List.mem_of_getElem? (i := 19) rfl)) rfl
theorem tw_699 : (Jvm.Cond.code ({ cls := "TurningTownModel", name := "swap", desc := "(II)I" } : Jvm.MethodName) prog_11_method_26_code (4 : Nat) (Option.some Jvm.ClassFile.FieldType.int)) ∈ TT := tt_in (in_5 (List.mem_of_getElem? (i := 18) rfl)) rfl
theorem tw_700 : (Jvm.Cond.instanceMethod ({ cls := "TurningTownModel", name := "swap", desc := "(II)I" } : Jvm.MethodName)) ∈ TT := tt_in (in_5 (List.mem_of_getElem? (i := 16) rfl)) rfl
theorem tw_701 : (Jvm.Cond.selects "TurningTownModel" ({ cls := "TurningTownModel", name := "swap", desc := "(II)I" } : Jvm.MethodName) ({ cls := "TurningTownModel", name := "swap", desc := "(II)I" } : Jvm.MethodName)) ∈ TT := tt_in (in_5 (List.mem_of_getElem? (i := 17) rfl)) rfl
theorem tw_702 : (Jvm.Cond.code ({ cls := "TurningTownModel", name := "placeOf", desc := "(I)I" } : Jvm.MethodName) prog_11_method_27_code (3 : Nat) (Option.some Jvm.ClassFile.FieldType.int)) ∈ TT := tt_in (in_5 (List.mem_of_getElem? (i := 34) rfl)) rfl
theorem tw_703 : (Jvm.Cond.instanceMethod ({ cls := "TurningTownModel", name := "placeOf", desc := "(I)I" } : Jvm.MethodName)) ∈ TT := tt_in (in_5 (List.mem_of_getElem? (i := 33) rfl)) rfl
theorem tw_704 : (Cond.selects "TurningTownModel" ⟨"TurningTownModel", "placeOf", "(I)I"⟩ ⟨"TurningTownModel", "placeOf", "(I)I"⟩) ∈ TT := tt_in (is_3 (q := (⟨"TurningTownModel", "placeOf", "(I)I"⟩, 43)) (List.mem_of_getElem? (i := 1) rfl)) rfl
theorem tw_705 : (Jvm.Cond.fieldLink "TurningTownModel" (37 : Nat) "TurningTownModel" "traded" "[I") ∈ TT := tt_in (in_4 (List.mem_of_getElem? (i := 56) rfl)) rfl
theorem tw_706 : (Jvm.Cond.code ({ cls := "TurningTownModel", name := "isLeft", desc := "(I)Z" } : Jvm.MethodName) prog_11_method_46_code (2 : Nat) (Option.some Jvm.ClassFile.FieldType.boolean)) ∈ TT := tt_in (in_5 (List.mem_of_getElem? (i := 62) rfl)) rfl
theorem tw_707 : (Jvm.Cond.instanceMethod ({ cls := "TurningTownModel", name := "isLeft", desc := "(I)Z" } : Jvm.MethodName)) ∈ TT := tt_in (in_5 (List.mem_of_getElem? (i := 61) rfl)) rfl
theorem tw_708 : (Cond.selects "TurningTownModel" ⟨"TurningTownModel", "isLeft", "(I)Z"⟩ ⟨"TurningTownModel", "isLeft", "(I)Z"⟩) ∈ TT := tt_in (is_3 (q := (⟨"TurningTownModel", "isLeft", "(I)Z"⟩, 43)) (List.mem_of_getElem? (i := 8) rfl)) rfl
theorem tw_709 : (Jvm.Cond.methodLink "TurningTownModel" (230 : Nat) ({ cls := "TurningTownModel", name := "isLeft", desc := "(I)Z" } : Jvm.MethodName)) ∈ TT := tt_in (in_5 (List.mem_of_getElem? (i := 59) rfl)) rfl
theorem tw_710 : (Jvm.Cond.code ({ cls := "TurningTownModel", name := "leftMany", desc := "()I" } : Jvm.MethodName) prog_11_method_49_code (3 : Nat) (Option.some Jvm.ClassFile.FieldType.int)) ∈ TT := tt_in (in_5 (List.mem_of_getElem? (i := 58) rfl)) rfl
theorem tw_711 : (Jvm.Cond.instanceMethod ({ cls := "TurningTownModel", name := "leftMany", desc := "()I" } : Jvm.MethodName)) ∈ TT := tt_in (in_5 (List.mem_of_getElem? (i := 57) rfl)) rfl
theorem tw_712 : (Cond.selects "TurningTownModel" ⟨"TurningTownModel", "leftMany", "()I"⟩ ⟨"TurningTownModel", "leftMany", "()I"⟩) ∈ TT := tt_in (is_3 (q := (⟨"TurningTownModel", "leftMany", "()I"⟩, 43)) (List.mem_of_getElem? (i := 7) rfl)) rfl
theorem tw_713 : (Jvm.Cond.methodLink "TurningTownModel" (216 : Nat) ({ cls := "TurningTownModel", name := "round", desc := "(II)I" } : Jvm.MethodName)) ∈ TT := tt_in (in_5 (List.mem_of_getElem? (i := 67) rfl)) rfl
theorem tw_714 : (Jvm.Cond.code ({ cls := "TurningTownModel", name := "pointsTo", desc := "(I)I" } : Jvm.MethodName) prog_11_method_47_code (5 : Nat) (Option.some Jvm.ClassFile.FieldType.int)) ∈ TT := tt_in (in_5 (List.mem_of_getElem? (i := 66) rfl)) rfl
theorem tw_715 : (Jvm.Cond.instanceMethod ({ cls := "TurningTownModel", name := "pointsTo", desc := "(I)I" } : Jvm.MethodName)) ∈ TT := tt_in (in_5 (List.mem_of_getElem? (i := 65) rfl)) rfl
theorem tw_716 : (Cond.selects "TurningTownModel" ⟨"TurningTownModel", "pointsTo", "(I)I"⟩ ⟨"TurningTownModel", "pointsTo", "(I)I"⟩) ∈ TT := tt_in (is_3 (q := (⟨"TurningTownModel", "pointsTo", "(I)I"⟩, 43)) (List.mem_of_getElem? (i := 9) rfl)) rfl
theorem tw_717 : (Jvm.Cond.fieldLink "TurningTownModel" (40 : Nat) "TurningTownModel" "points" "[I") ∈ TT := tt_in (in_4 (List.mem_of_getElem? (i := 57) rfl)) rfl
theorem tw_718 : (Jvm.Cond.code ({ cls := "TurningTownModel", name := "ringOf", desc := "(I)I" } : Jvm.MethodName) prog_11_method_48_code (4 : Nat) (Option.some Jvm.ClassFile.FieldType.int)) ∈ TT := tt_in (in_5 (List.mem_of_getElem? (i := 73) rfl)) rfl
theorem tw_719 : (Jvm.Cond.instanceMethod ({ cls := "TurningTownModel", name := "ringOf", desc := "(I)I" } : Jvm.MethodName)) ∈ TT := tt_in (in_5 (List.mem_of_getElem? (i := 72) rfl)) rfl
theorem tw_720 : (Cond.selects "TurningTownModel" ⟨"TurningTownModel", "ringOf", "(I)I"⟩ ⟨"TurningTownModel", "ringOf", "(I)I"⟩) ∈ TT := tt_in (is_3 (q := (⟨"TurningTownModel", "ringOf", "(I)I"⟩, 43)) (List.mem_of_getElem? (i := 10) rfl)) rfl
theorem tw_721 : (Jvm.Cond.code ({ cls := "TurningTownModel", name := "isLeastOn", desc := "(I)Z" } : Jvm.MethodName) prog_11_method_51_code (4 : Nat) (Option.some Jvm.ClassFile.FieldType.boolean)) ∈ TT := tt_in (in_5 (List.mem_of_getElem? (i := 77) rfl)) rfl
theorem tw_722 : (Jvm.Cond.instanceMethod ({ cls := "TurningTownModel", name := "isLeastOn", desc := "(I)Z" } : Jvm.MethodName)) ∈ TT := tt_in (in_5 (List.mem_of_getElem? (i := 76) rfl)) rfl
theorem tw_723 : (Cond.selects "TurningTownModel" ⟨"TurningTownModel", "isLeastOn", "(I)Z"⟩ ⟨"TurningTownModel", "isLeastOn", "(I)Z"⟩) ∈ TT := tt_in (is_3 (q := (⟨"TurningTownModel", "isLeastOn", "(I)Z"⟩, 43)) (List.mem_of_getElem? (i := 11) rfl)) rfl
theorem tw_724 : (Jvm.Cond.fieldLink "TurningTownModel" (43 : Nat) "TurningTownModel" "ringLong" "[I") ∈ TT := tt_in (in_4 (List.mem_of_getElem? (i := 59) rfl)) rfl
theorem tw_725 : (Jvm.Cond.fieldLink "TurningTownModel" (233 : Nat) "TurningTownModel" "ringsMany" "I") ∈ TT := tt_in (in_4 (List.mem_of_getElem? (i := 58) rfl)) rfl
theorem tw_726 : (Jvm.Cond.methodLink "TurningTownModel" (239 : Nat) ({ cls := "TurningTownModel", name := "pointsTo", desc := "(I)I" } : Jvm.MethodName)) ∈ TT := tt_in (in_5 (List.mem_of_getElem? (i := 63) rfl)) rfl
theorem tw_727 : (Jvm.Cond.methodLink "TurningTownModel" (245 : Nat) ({ cls := "TurningTownModel", name := "isLeastOn", desc := "(I)Z" } : Jvm.MethodName)) ∈ TT := tt_in (in_5 (List.mem_of_getElem? (i := 74) rfl)) rfl
theorem tw_728 : (Jvm.Cond.methodLink "TurningTownModel" (236 : Nat) ({ cls := "TurningTownModel", name := "leftMany", desc := "()I" } : Jvm.MethodName)) ∈ TT := tt_in (in_5 (List.mem_of_getElem? (i := 55) rfl)) rfl
theorem tw_729 : (Jvm.Cond.methodLink "TurningTownModel" (242 : Nat) ({ cls := "TurningTownModel", name := "ringOf", desc := "(I)I" } : Jvm.MethodName)) ∈ TT := tt_in (in_5 (List.mem_of_getElem? (i := 70) rfl)) rfl
theorem tw_730 : (Jvm.Cond.code ({ cls := "TurningTownModel", name := "trade", desc := "()V" } : Jvm.MethodName) prog_11_method_50_code (2 : Nat) (Option.none : Option Jvm.ClassFile.FieldType)) ∈ TT := tt_in (in_5 (List.mem_of_getElem? (i := 54) rfl)) rfl
theorem tw_731 : (Jvm.Cond.instanceMethod ({ cls := "TurningTownModel", name := "trade", desc := "()V" } : Jvm.MethodName)) ∈ TT := tt_in (in_5 (List.mem_of_getElem? (i := 53) rfl)) rfl
theorem tw_732 : (Cond.selects "TurningTownModel" ⟨"TurningTownModel", "trade", "()V"⟩ ⟨"TurningTownModel", "trade", "()V"⟩) ∈ TT := tt_in (is_3 (q := (⟨"TurningTownModel", "trade", "()V"⟩, 43)) (List.mem_of_getElem? (i := 6) rfl)) rfl
theorem tw_733 : (Jvm.Cond.fieldLink "TurningTownModel" (58 : Nat) "TurningTownModel" "ways" "[I") ∈ TT := tt_in (in_4 (List.mem_of_getElem? (i := 67) rfl)) rfl
theorem tw_734 : (Jvm.Cond.code ({ cls := "TurningTownModel", name := "layWays", desc := "(I)V" } : Jvm.MethodName) prog_11_method_61_code (5 : Nat) (Option.none : Option Jvm.ClassFile.FieldType)) ∈ TT := tt_in (in_5 (List.mem_of_getElem? (i := 42) rfl)) rfl
theorem tw_735 : (Jvm.Cond.instanceMethod ({ cls := "TurningTownModel", name := "layWays", desc := "(I)V" } : Jvm.MethodName)) ∈ TT := tt_in (in_5 (List.mem_of_getElem? (i := 41) rfl)) rfl
theorem tw_736 : (Cond.selects "TurningTownModel" ⟨"TurningTownModel", "layWays", "(I)V"⟩ ⟨"TurningTownModel", "layWays", "(I)V"⟩) ∈ TT := tt_in (is_3 (q := (⟨"TurningTownModel", "layWays", "(I)V"⟩, 43)) (List.mem_of_getElem? (i := 3) rfl)) rfl
theorem tw_737 : (Jvm.Cond.fieldLink "TurningTownModel" (55 : Nat) "TurningTownModel" "sights" "[I") ∈ TT := tt_in (in_4 (List.mem_of_getElem? (i := 66) rfl)) rfl
theorem tw_738 : (Jvm.Cond.code ({ cls := "TurningTownModel", name := "kindsLaid", desc := "(I)I" } : Jvm.MethodName) prog_11_method_62_code (6 : Nat) (Option.some Jvm.ClassFile.FieldType.int)) ∈ TT := tt_in (in_5 (List.mem_of_getElem? (i := 46) rfl)) rfl
theorem tw_739 : (Jvm.Cond.instanceMethod ({ cls := "TurningTownModel", name := "kindsLaid", desc := "(I)I" } : Jvm.MethodName)) ∈ TT := tt_in (in_5 (List.mem_of_getElem? (i := 45) rfl)) rfl
theorem tw_740 : (Cond.selects "TurningTownModel" ⟨"TurningTownModel", "kindsLaid", "(I)I"⟩ ⟨"TurningTownModel", "kindsLaid", "(I)I"⟩) ∈ TT := tt_in (is_3 (q := (⟨"TurningTownModel", "kindsLaid", "(I)I"⟩, 43)) (List.mem_of_getElem? (i := 4) rfl)) rfl
theorem tw_741 : (Jvm.Cond.methodLink "TurningTownModel" (266 : Nat) ({ cls := "TurningTownModel", name := "layWays", desc := "(I)V" } : Jvm.MethodName)) ∈ TT := tt_in (in_5 (List.mem_of_getElem? (i := 39) rfl)) rfl
theorem tw_742 : (Jvm.Cond.methodLink "TurningTownModel" (269 : Nat) ({ cls := "TurningTownModel", name := "kindsLaid", desc := "(I)I" } : Jvm.MethodName)) ∈ TT := tt_in (in_5 (List.mem_of_getElem? (i := 43) rfl)) rfl
theorem tw_743 : (Jvm.Cond.code ({ cls := "TurningTownModel", name := "lookOf", desc := "(I)I" } : Jvm.MethodName) prog_11_method_64_code (10 : Nat) (Option.some Jvm.ClassFile.FieldType.int)) ∈ TT := tt_in (in_5 (List.mem_of_getElem? (i := 50) rfl)) rfl
theorem tw_744 : (Jvm.Cond.instanceMethod ({ cls := "TurningTownModel", name := "lookOf", desc := "(I)I" } : Jvm.MethodName)) ∈ TT := tt_in (in_5 (List.mem_of_getElem? (i := 49) rfl)) rfl
theorem tw_745 : (Cond.selects "TurningTownModel" ⟨"TurningTownModel", "lookOf", "(I)I"⟩ ⟨"TurningTownModel", "lookOf", "(I)I"⟩) ∈ TT := tt_in (is_3 (q := (⟨"TurningTownModel", "lookOf", "(I)I"⟩, 43)) (List.mem_of_getElem? (i := 5) rfl)) rfl
theorem tw_746 : (Jvm.Cond.code ({ cls := "TurningTownModel", name := "kindsOf", desc := "(I)I" } : Jvm.MethodName) prog_11_method_63_code (2 : Nat) (Option.some Jvm.ClassFile.FieldType.int)) ∈ TT := tt_in (in_5 (List.mem_of_getElem? (i := 38) rfl)) rfl
theorem tw_747 : (Jvm.Cond.instanceMethod ({ cls := "TurningTownModel", name := "kindsOf", desc := "(I)I" } : Jvm.MethodName)) ∈ TT := tt_in (in_5 (List.mem_of_getElem? (i := 37) rfl)) rfl
theorem tw_748 : (Cond.selects "TurningTownModel" ⟨"TurningTownModel", "kindsOf", "(I)I"⟩ ⟨"TurningTownModel", "kindsOf", "(I)I"⟩) ∈ TT := tt_in (is_3 (q := (⟨"TurningTownModel", "kindsOf", "(I)I"⟩, 43)) (List.mem_of_getElem? (i := 2) rfl)) rfl
theorem tw_749 : (Jvm.Cond.methodLink "TurningTownModel" (179 : Nat) ({ cls := "TurningTownModel", name := "placeOf", desc := "(I)I" } : Jvm.MethodName)) ∈ TT := tt_in (in_5 (List.mem_of_getElem? (i := 31) rfl)) rfl
theorem tw_750 : (Jvm.Cond.methodLink "TurningTownModel" (182 : Nat) ({ cls := "TurningTownModel", name := "kindsOf", desc := "(I)I" } : Jvm.MethodName)) ∈ TT := tt_in (in_5 (List.mem_of_getElem? (i := 35) rfl)) rfl
theorem tw_751 : (Jvm.Cond.methodLink "TurningTownModel" (185 : Nat) ({ cls := "TurningTownModel", name := "lookOf", desc := "(I)I" } : Jvm.MethodName)) ∈ TT := tt_in (in_5 (List.mem_of_getElem? (i := 47) rfl)) rfl
theorem tw_752 : (Jvm.Cond.methodLink "TurningTownModel" (188 : Nat) ({ cls := "TurningTownModel", name := "trade", desc := "()V" } : Jvm.MethodName)) ∈ TT := tt_in (in_5 (List.mem_of_getElem? (i := 51) rfl)) rfl
theorem tw_753 : (Jvm.Cond.code ({ cls := "TurningTownModel", name := "tellHouse", desc := "(II)I" } : Jvm.MethodName) prog_11_method_28_code (3 : Nat) (Option.some Jvm.ClassFile.FieldType.int)) ∈ TT := tt_in (in_5 (List.mem_of_getElem? (i := 30) rfl)) rfl
theorem tw_754 : (Jvm.Cond.instanceMethod ({ cls := "TurningTownModel", name := "tellHouse", desc := "(II)I" } : Jvm.MethodName)) ∈ TT := tt_in (in_5 (List.mem_of_getElem? (i := 29) rfl)) rfl
theorem tw_755 : (Cond.selects "TurningTownModel" ⟨"TurningTownModel", "tellHouse", "(II)I"⟩ ⟨"TurningTownModel", "tellHouse", "(II)I"⟩) ∈ TT := tt_in (is_3 (q := (⟨"TurningTownModel", "tellHouse", "(II)I"⟩, 43)) (List.mem_of_getElem? (i := 0) rfl)) rfl
theorem tw_756 : (Jvm.Cond.methodLink "TurningTownModel" (191 : Nat) ({ cls := "TurningTownModel", name := "tellHouse", desc := "(II)I" } : Jvm.MethodName)) ∈ TT := tt_in (in_5 (List.mem_of_getElem? (i := 27) rfl)) rfl
theorem tw_757 : (Jvm.Cond.code ({ cls := "TurningTownModel", name := "house", desc := "(II)I" } : Jvm.MethodName) prog_11_method_29_code (3 : Nat) (Option.some Jvm.ClassFile.FieldType.int)) ∈ TT := tt_in (in_5 (List.mem_of_getElem? (i := 26) rfl)) rfl
theorem tw_758 : (Jvm.Cond.instanceMethod ({ cls := "TurningTownModel", name := "house", desc := "(II)I" } : Jvm.MethodName)) ∈ TT := tt_in (in_5 (List.mem_of_getElem? (i := 24) rfl)) rfl
theorem tw_759 : (Jvm.Cond.selects "TurningTownModel" ({ cls := "TurningTownModel", name := "house", desc := "(II)I" } : Jvm.MethodName) ({ cls := "TurningTownModel", name := "house", desc := "(II)I" } : Jvm.MethodName)) ∈ TT := tt_in (in_5 (List.mem_of_getElem? (i := 25) rfl)) rfl
theorem tw_760 : (Jvm.Cond.code ({ cls := "TurningTownModel", name := "as", desc := "(II)I" } : Jvm.MethodName) prog_11_method_30_code (4 : Nat) (Option.some Jvm.ClassFile.FieldType.int)) ∈ TT := tt_in (in_5 (List.mem_of_getElem? (i := 81) rfl)) rfl
theorem tw_761 : (Jvm.Cond.instanceMethod ({ cls := "TurningTownModel", name := "as", desc := "(II)I" } : Jvm.MethodName)) ∈ TT := tt_in (in_5 (List.mem_of_getElem? (i := 79) rfl)) rfl
theorem tw_762 : (Jvm.Cond.selects "TurningTownModel" ({ cls := "TurningTownModel", name := "as", desc := "(II)I" } : Jvm.MethodName) ({ cls := "TurningTownModel", name := "as", desc := "(II)I" } : Jvm.MethodName)) ∈ TT := tt_in (in_5 (List.mem_of_getElem? (i := 80) rfl)) rfl
theorem tw_763 : (Jvm.Cond.code ({ cls := "TurningTownModel", name := "standsOn", desc := "(I)I" } : Jvm.MethodName) prog_11_method_31_code (3 : Nat) (Option.some Jvm.ClassFile.FieldType.int)) ∈ TT := tt_in (in_5 (List.mem_of_getElem? (i := 97) rfl)) rfl
theorem tw_764 : (Jvm.Cond.instanceMethod ({ cls := "TurningTownModel", name := "standsOn", desc := "(I)I" } : Jvm.MethodName)) ∈ TT := tt_in (in_5 (List.mem_of_getElem? (i := 96) rfl)) rfl
theorem tw_765 : (Cond.selects "TurningTownModel" ⟨"TurningTownModel", "standsOn", "(I)I"⟩ ⟨"TurningTownModel", "standsOn", "(I)I"⟩) ∈ TT := tt_in (is_3 (q := (⟨"TurningTownModel", "standsOn", "(I)I"⟩, 43)) (List.mem_of_getElem? (i := 13) rfl)) rfl
theorem tw_766 : (Jvm.Cond.code ({ cls := "TurningTownModel", name := "likeIt", desc := "(I)I" } : Jvm.MethodName) prog_11_method_32_code (4 : Nat) (Option.some Jvm.ClassFile.FieldType.int)) ∈ TT := tt_in (in_5 (List.mem_of_getElem? (i := 101) rfl)) rfl
theorem tw_767 : (Jvm.Cond.instanceMethod ({ cls := "TurningTownModel", name := "likeIt", desc := "(I)I" } : Jvm.MethodName)) ∈ TT := tt_in (in_5 (List.mem_of_getElem? (i := 100) rfl)) rfl
theorem tw_768 : (Cond.selects "TurningTownModel" ⟨"TurningTownModel", "likeIt", "(I)I"⟩ ⟨"TurningTownModel", "likeIt", "(I)I"⟩) ∈ TT := tt_in (is_3 (q := (⟨"TurningTownModel", "likeIt", "(I)I"⟩, 43)) (List.mem_of_getElem? (i := 14) rfl)) rfl
theorem tw_769 : (Jvm.Cond.methodLink "TurningTownModel" (195 : Nat) ({ cls := "TurningTownModel", name := "standsOn", desc := "(I)I" } : Jvm.MethodName)) ∈ TT := tt_in (in_5 (List.mem_of_getElem? (i := 94) rfl)) rfl
theorem tw_770 : (Jvm.Cond.methodLink "TurningTownModel" (198 : Nat) ({ cls := "TurningTownModel", name := "likeIt", desc := "(I)I" } : Jvm.MethodName)) ∈ TT := tt_in (in_5 (List.mem_of_getElem? (i := 98) rfl)) rfl
theorem tw_771 : (Jvm.Cond.code ({ cls := "TurningTownModel", name := "tellPlot", desc := "(II)I" } : Jvm.MethodName) prog_11_method_33_code (3 : Nat) (Option.some Jvm.ClassFile.FieldType.int)) ∈ TT := tt_in (in_5 (List.mem_of_getElem? (i := 93) rfl)) rfl
theorem tw_772 : (Jvm.Cond.instanceMethod ({ cls := "TurningTownModel", name := "tellPlot", desc := "(II)I" } : Jvm.MethodName)) ∈ TT := tt_in (in_5 (List.mem_of_getElem? (i := 92) rfl)) rfl
theorem tw_773 : (Cond.selects "TurningTownModel" ⟨"TurningTownModel", "tellPlot", "(II)I"⟩ ⟨"TurningTownModel", "tellPlot", "(II)I"⟩) ∈ TT := tt_in (is_3 (q := (⟨"TurningTownModel", "tellPlot", "(II)I"⟩, 43)) (List.mem_of_getElem? (i := 12) rfl)) rfl
theorem tw_774 : (Jvm.Cond.methodLink "TurningTownModel" (201 : Nat) ({ cls := "TurningTownModel", name := "isPlot", desc := "(I)Z" } : Jvm.MethodName)) ∈ TT := tt_in (in_5 (List.mem_of_getElem? (i := 86) rfl)) rfl
theorem tw_775 : (Jvm.Cond.methodLink "TurningTownModel" (204 : Nat) ({ cls := "TurningTownModel", name := "tellPlot", desc := "(II)I" } : Jvm.MethodName)) ∈ TT := tt_in (in_5 (List.mem_of_getElem? (i := 90) rfl)) rfl
theorem tw_776 : (Jvm.Cond.code ({ cls := "TurningTownModel", name := "plot", desc := "(II)I" } : Jvm.MethodName) prog_11_method_34_code (3 : Nat) (Option.some Jvm.ClassFile.FieldType.int)) ∈ TT := tt_in (in_5 (List.mem_of_getElem? (i := 85) rfl)) rfl
theorem tw_777 : (Jvm.Cond.instanceMethod ({ cls := "TurningTownModel", name := "plot", desc := "(II)I" } : Jvm.MethodName)) ∈ TT := tt_in (in_5 (List.mem_of_getElem? (i := 83) rfl)) rfl
theorem tw_778 : (Jvm.Cond.selects "TurningTownModel" ({ cls := "TurningTownModel", name := "plot", desc := "(II)I" } : Jvm.MethodName) ({ cls := "TurningTownModel", name := "plot", desc := "(II)I" } : Jvm.MethodName)) ∈ TT := tt_in (in_5 (List.mem_of_getElem? (i := 84) rfl)) rfl
theorem tw_779 : (Jvm.Cond.code ({ cls := "TurningTownModel", name := "goNights", desc := "(I)V" } : Jvm.MethodName) prog_11_method_35_code (3 : Nat) (Option.none : Option Jvm.ClassFile.FieldType)) ∈ TT := tt_in (in_5 (List.mem_of_getElem? (i := 114) rfl)) rfl
theorem tw_780 : (Jvm.Cond.instanceMethod ({ cls := "TurningTownModel", name := "goNights", desc := "(I)V" } : Jvm.MethodName)) ∈ TT := tt_in (in_5 (List.mem_of_getElem? (i := 113) rfl)) rfl
theorem tw_781 : (Cond.selects "TurningTownModel" ⟨"TurningTownModel", "goNights", "(I)V"⟩ ⟨"TurningTownModel", "goNights", "(I)V"⟩) ∈ TT := tt_in (is_4 (q := (⟨"TurningTownModel", "goNights", "(I)V"⟩, 43)) (List.mem_of_getElem? (i := 0) rfl)) rfl
theorem tw_782 : (Jvm.Cond.methodLink "TurningTownModel" (207 : Nat) ({ cls := "TurningTownModel", name := "goNights", desc := "(I)V" } : Jvm.MethodName)) ∈ TT := tt_in (in_5 (List.mem_of_getElem? (i := 111) rfl)) rfl
theorem tw_783 : (Jvm.Cond.code ({ cls := "TurningTownModel", name := "whereOf", desc := "(II)I" } : Jvm.MethodName) prog_11_method_36_code (3 : Nat) (Option.some Jvm.ClassFile.FieldType.int)) ∈ TT := tt_in (in_5 (List.mem_of_getElem? (i := 110) rfl)) rfl
theorem tw_784 : (Jvm.Cond.instanceMethod ({ cls := "TurningTownModel", name := "whereOf", desc := "(II)I" } : Jvm.MethodName)) ∈ TT := tt_in (in_5 (List.mem_of_getElem? (i := 109) rfl)) rfl
theorem tw_785 : (Cond.selects "TurningTownModel" ⟨"TurningTownModel", "whereOf", "(II)I"⟩ ⟨"TurningTownModel", "whereOf", "(II)I"⟩) ∈ TT := tt_in (is_3 (q := (⟨"TurningTownModel", "whereOf", "(II)I"⟩, 43)) (List.mem_of_getElem? (i := 15) rfl)) rfl
theorem tw_786 : (Jvm.Cond.constantLong "TurningTownModel" (211 : Nat) (400 : Int64)) ∈ TT := tt_in (in_5 (List.mem_of_getElem? (i := 106) rfl)) rfl
theorem tw_787 : (Jvm.Cond.methodLink "TurningTownModel" (213 : Nat) ({ cls := "TurningTownModel", name := "whereOf", desc := "(II)I" } : Jvm.MethodName)) ∈ TT := tt_in (in_5 (List.mem_of_getElem? (i := 107) rfl)) rfl
theorem tw_788 : (Jvm.Cond.code ({ cls := "TurningTownModel", name := "where", desc := "(II)I" } : Jvm.MethodName) prog_11_method_37_code (3 : Nat) (Option.some Jvm.ClassFile.FieldType.int)) ∈ TT := tt_in (in_5 (List.mem_of_getElem? (i := 105) rfl)) rfl
theorem tw_789 : (Jvm.Cond.instanceMethod ({ cls := "TurningTownModel", name := "where", desc := "(II)I" } : Jvm.MethodName)) ∈ TT := tt_in (in_5 (List.mem_of_getElem? (i := 103) rfl)) rfl
theorem tw_790 : (Jvm.Cond.selects "TurningTownModel" ({ cls := "TurningTownModel", name := "where", desc := "(II)I" } : Jvm.MethodName) ({ cls := "TurningTownModel", name := "where", desc := "(II)I" } : Jvm.MethodName)) ∈ TT := tt_in (in_5 (List.mem_of_getElem? (i := 104) rfl)) rfl
theorem tw_791 : (Jvm.Cond.code ({ cls := "TurningTownModel", name := "when", desc := "(II)I" } : Jvm.MethodName) prog_11_method_38_code (4 : Nat) (Option.some Jvm.ClassFile.FieldType.int)) ∈ TT := tt_in (in_5 (List.mem_of_getElem? (i := 118) rfl)) rfl
theorem tw_792 : (Jvm.Cond.instanceMethod ({ cls := "TurningTownModel", name := "when", desc := "(II)I" } : Jvm.MethodName)) ∈ TT := tt_in (in_5 (List.mem_of_getElem? (i := 116) rfl)) rfl
theorem tw_793 : (Jvm.Cond.selects "TurningTownModel" ({ cls := "TurningTownModel", name := "when", desc := "(II)I" } : Jvm.MethodName) ({ cls := "TurningTownModel", name := "when", desc := "(II)I" } : Jvm.MethodName)) ∈ TT := tt_in (in_5 (List.mem_of_getElem? (i := 117) rfl)) rfl
theorem tw_794 : (Jvm.Cond.code ({ cls := "TurningTownModel", name := "neighbours", desc := "(II)I" } : Jvm.MethodName) prog_11_method_39_code (4 : Nat) (Option.some Jvm.ClassFile.FieldType.int)) ∈ TT := tt_in (in_5 (List.mem_of_getElem? (i := 122) rfl)) rfl
theorem tw_795 : (Jvm.Cond.instanceMethod ({ cls := "TurningTownModel", name := "neighbours", desc := "(II)I" } : Jvm.MethodName)) ∈ TT := tt_in (in_5 (List.mem_of_getElem? (i := 120) rfl)) rfl
theorem tw_796 : (Jvm.Cond.selects "TurningTownModel" ({ cls := "TurningTownModel", name := "neighbours", desc := "(II)I" } : Jvm.MethodName) ({ cls := "TurningTownModel", name := "neighbours", desc := "(II)I" } : Jvm.MethodName)) ∈ TT := tt_in (in_5 (List.mem_of_getElem? (i := 121) rfl)) rfl
theorem tw_797 : (Jvm.Cond.code ({ cls := "TurningTownModel", name := "isAsNow", desc := "()Z" } : Jvm.MethodName) prog_11_method_40_code (3 : Nat) (Option.some Jvm.ClassFile.FieldType.boolean)) ∈ TT := tt_in (in_5 (List.mem_of_getElem? (i := 134) rfl)) rfl
theorem tw_798 : (Jvm.Cond.instanceMethod ({ cls := "TurningTownModel", name := "isAsNow", desc := "()Z" } : Jvm.MethodName)) ∈ TT := tt_in (in_5 (List.mem_of_getElem? (i := 133) rfl)) rfl
theorem tw_799 : (Cond.selects "TurningTownModel" ⟨"TurningTownModel", "isAsNow", "()Z"⟩ ⟨"TurningTownModel", "isAsNow", "()Z"⟩) ∈ TT := tt_in (is_4 (q := (⟨"TurningTownModel", "isAsNow", "()Z"⟩, 43)) (List.mem_of_getElem? (i := 2) rfl)) rfl
theorem tw_800 : (Jvm.Cond.methodLink "TurningTownModel" (219 : Nat) ({ cls := "TurningTownModel", name := "isAsNow", desc := "()Z" } : Jvm.MethodName)) ∈ TT := tt_in (in_5 (List.mem_of_getElem? (i := 131) rfl)) rfl
theorem tw_801 : (Jvm.Cond.code ({ cls := "TurningTownModel", name := "againOf", desc := "()I" } : Jvm.MethodName) prog_11_method_41_code (2 : Nat) (Option.some Jvm.ClassFile.FieldType.int)) ∈ TT := tt_in (in_5 (List.mem_of_getElem? (i := 130) rfl)) rfl
theorem tw_802 : (Jvm.Cond.instanceMethod ({ cls := "TurningTownModel", name := "againOf", desc := "()I" } : Jvm.MethodName)) ∈ TT := tt_in (in_5 (List.mem_of_getElem? (i := 129) rfl)) rfl
theorem tw_803 : (Cond.selects "TurningTownModel" ⟨"TurningTownModel", "againOf", "()I"⟩ ⟨"TurningTownModel", "againOf", "()I"⟩) ∈ TT := tt_in (is_4 (q := (⟨"TurningTownModel", "againOf", "()I"⟩, 43)) (List.mem_of_getElem? (i := 1) rfl)) rfl
theorem tw_804 : (Jvm.Cond.methodLink "TurningTownModel" (222 : Nat) ({ cls := "TurningTownModel", name := "againOf", desc := "()I" } : Jvm.MethodName)) ∈ TT := tt_in (in_5 (List.mem_of_getElem? (i := 127) rfl)) rfl
theorem tw_805 : (Jvm.Cond.code ({ cls := "TurningTownModel", name := "again", desc := "()I" } : Jvm.MethodName) prog_11_method_42_code (1 : Nat) (Option.some Jvm.ClassFile.FieldType.int)) ∈ TT := tt_in (in_5 (List.mem_of_getElem? (i := 126) rfl)) rfl
theorem tw_806 : (Jvm.Cond.instanceMethod ({ cls := "TurningTownModel", name := "again", desc := "()I" } : Jvm.MethodName)) ∈ TT := tt_in (in_5 (List.mem_of_getElem? (i := 124) rfl)) rfl
theorem tw_807 : (Jvm.Cond.selects "TurningTownModel" ({ cls := "TurningTownModel", name := "again", desc := "()I" } : Jvm.MethodName) ({ cls := "TurningTownModel", name := "again", desc := "()I" } : Jvm.MethodName)) ∈ TT := tt_in (in_5 (List.mem_of_getElem? (i := 125) rfl)) rfl
theorem tw_808 : (Jvm.Cond.code ({ cls := "TurningTownModel", name := "post", desc := "(II)I" } : Jvm.MethodName) prog_11_method_43_code (4 : Nat) (Option.some Jvm.ClassFile.FieldType.int)) ∈ TT := tt_in (in_5 (List.mem_of_getElem? (i := 138) rfl)) rfl
theorem tw_809 : (Jvm.Cond.instanceMethod ({ cls := "TurningTownModel", name := "post", desc := "(II)I" } : Jvm.MethodName)) ∈ TT := tt_in (in_5 (List.mem_of_getElem? (i := 136) rfl)) rfl
theorem tw_810 : (Jvm.Cond.selects "TurningTownModel" ({ cls := "TurningTownModel", name := "post", desc := "(II)I" } : Jvm.MethodName) ({ cls := "TurningTownModel", name := "post", desc := "(II)I" } : Jvm.MethodName)) ∈ TT := tt_in (in_5 (List.mem_of_getElem? (i := 137) rfl)) rfl
theorem tw_811 : (Jvm.Cond.code ({ cls := "TurningTownModel", name := "willOf", desc := "(II)I" } : Jvm.MethodName) prog_11_method_44_code (5 : Nat) (Option.some Jvm.ClassFile.FieldType.int)) ∈ TT := tt_in (in_5 (List.mem_of_getElem? (i := 147) rfl)) rfl
theorem tw_812 : (Jvm.Cond.instanceMethod ({ cls := "TurningTownModel", name := "willOf", desc := "(II)I" } : Jvm.MethodName)) ∈ TT := tt_in (in_5 (List.mem_of_getElem? (i := 146) rfl)) rfl
theorem tw_813 : (Cond.selects "TurningTownModel" ⟨"TurningTownModel", "willOf", "(II)I"⟩ ⟨"TurningTownModel", "willOf", "(II)I"⟩) ∈ TT := tt_in (is_4 (q := (⟨"TurningTownModel", "willOf", "(II)I"⟩, 43)) (List.mem_of_getElem? (i := 3) rfl)) rfl
theorem tw_814 : (Jvm.Cond.constantLong "TurningTownModel" (225 : Nat) (60 : Int64)) ∈ TT := tt_in (in_5 (List.mem_of_getElem? (i := 143) rfl)) rfl
theorem tw_815 : (Jvm.Cond.methodLink "TurningTownModel" (227 : Nat) ({ cls := "TurningTownModel", name := "willOf", desc := "(II)I" } : Jvm.MethodName)) ∈ TT := tt_in (in_5 (List.mem_of_getElem? (i := 144) rfl)) rfl
theorem tw_816 : (Jvm.Cond.code ({ cls := "TurningTownModel", name := "will", desc := "(II)I" } : Jvm.MethodName) prog_11_method_45_code (3 : Nat) (Option.some Jvm.ClassFile.FieldType.int)) ∈ TT := tt_in (in_5 (List.mem_of_getElem? (i := 142) rfl)) rfl
theorem tw_817 : (Jvm.Cond.instanceMethod ({ cls := "TurningTownModel", name := "will", desc := "(II)I" } : Jvm.MethodName)) ∈ TT := tt_in (in_5 (List.mem_of_getElem? (i := 140) rfl)) rfl
theorem tw_818 : (Jvm.Cond.selects "TurningTownModel" ({ cls := "TurningTownModel", name := "will", desc := "(II)I" } : Jvm.MethodName) ({ cls := "TurningTownModel", name := "will", desc := "(II)I" } : Jvm.MethodName)) ∈ TT := tt_in (in_5 (List.mem_of_getElem? (i := 141) rfl)) rfl
theorem tw_819 : (Jvm.Cond.code ({ cls := "TurningTownModel", name := "rings", desc := "()I" } : Jvm.MethodName) prog_11_method_52_code (1 : Nat) (Option.some Jvm.ClassFile.FieldType.int)) ∈ TT := tt_in (in_5 (List.mem_of_getElem? (i := 151) rfl)) rfl
theorem tw_820 : (Jvm.Cond.instanceMethod ({ cls := "TurningTownModel", name := "rings", desc := "()I" } : Jvm.MethodName)) ∈ TT := tt_in (in_5 (List.mem_of_getElem? (i := 149) rfl)) rfl
theorem tw_821 : (Jvm.Cond.selects "TurningTownModel" ({ cls := "TurningTownModel", name := "rings", desc := "()I" } : Jvm.MethodName) ({ cls := "TurningTownModel", name := "rings", desc := "()I" } : Jvm.MethodName)) ∈ TT := tt_in (in_5 (List.mem_of_getElem? (i := 150) rfl)) rfl
theorem tw_822 : (Jvm.Cond.constantLong "TurningTownModel" (248 : Nat) (40 : Int64)) ∈ TT := tt_in (in_5 (List.mem_of_getElem? (i := 156) rfl)) rfl
theorem tw_823 : (Jvm.Cond.fieldLink "TurningTownModel" (46 : Nat) "TurningTownModel" "wishes" "[I") ∈ TT := tt_in (in_4 (List.mem_of_getElem? (i := 61) rfl)) rfl
theorem tw_824 : (Jvm.Cond.code ({ cls := "TurningTownModel", name := "wish", desc := "(III)I" } : Jvm.MethodName) prog_11_method_53_code (4 : Nat) (Option.some Jvm.ClassFile.FieldType.int)) ∈ TT := tt_in (in_5 (List.mem_of_getElem? (i := 155) rfl)) rfl
theorem tw_825 : (Jvm.Cond.instanceMethod ({ cls := "TurningTownModel", name := "wish", desc := "(III)I" } : Jvm.MethodName)) ∈ TT := tt_in (in_5 (List.mem_of_getElem? (i := 153) rfl)) rfl
theorem tw_826 : (Jvm.Cond.selects "TurningTownModel" ({ cls := "TurningTownModel", name := "wish", desc := "(III)I" } : Jvm.MethodName) ({ cls := "TurningTownModel", name := "wish", desc := "(III)I" } : Jvm.MethodName)) ∈ TT := tt_in (in_5 (List.mem_of_getElem? (i := 154) rfl)) rfl
theorem tw_827 : (Jvm.Cond.code ({ cls := "TurningTownModel", name := "give", desc := "()I" } : Jvm.MethodName) prog_11_method_54_code (2 : Nat) (Option.some Jvm.ClassFile.FieldType.int)) ∈ TT := tt_in (in_5 (List.mem_of_getElem? (i := 160) rfl)) rfl
theorem tw_828 : (Jvm.Cond.instanceMethod ({ cls := "TurningTownModel", name := "give", desc := "()I" } : Jvm.MethodName)) ∈ TT := tt_in (in_5 (List.mem_of_getElem? (i := 158) rfl)) rfl
theorem tw_829 : (Jvm.Cond.selects "TurningTownModel" ({ cls := "TurningTownModel", name := "give", desc := "()I" } : Jvm.MethodName) ({ cls := "TurningTownModel", name := "give", desc := "()I" } : Jvm.MethodName)) ∈ TT := tt_in (in_5 (List.mem_of_getElem? (i := 159) rfl)) rfl
theorem tw_830 : (Jvm.Cond.fieldLink "TurningTownModel" (49 : Nat) "TurningTownModel" "order" "[I") ∈ TT := tt_in (in_4 (List.mem_of_getElem? (i := 63) rfl)) rfl
theorem tw_831 : (Jvm.Cond.code ({ cls := "TurningTownModel", name := "comeTrue", desc := "()I" } : Jvm.MethodName) prog_11_method_55_code (4 : Nat) (Option.some Jvm.ClassFile.FieldType.int)) ∈ TT := tt_in (in_5 (List.mem_of_getElem? (i := 174) rfl)) rfl
theorem tw_832 : (Jvm.Cond.instanceMethod ({ cls := "TurningTownModel", name := "comeTrue", desc := "()I" } : Jvm.MethodName)) ∈ TT := tt_in (in_5 (List.mem_of_getElem? (i := 173) rfl)) rfl
theorem tw_833 : (Cond.selects "TurningTownModel" ⟨"TurningTownModel", "comeTrue", "()I"⟩ ⟨"TurningTownModel", "comeTrue", "()I"⟩) ∈ TT := tt_in (is_4 (q := (⟨"TurningTownModel", "comeTrue", "()I"⟩, 43)) (List.mem_of_getElem? (i := 5) rfl)) rfl
theorem tw_834 : (Jvm.Cond.code ({ cls := "TurningTownModel", name := "nextOrder", desc := "()Z" } : Jvm.MethodName) prog_11_method_56_code (7 : Nat) (Option.some Jvm.ClassFile.FieldType.boolean)) ∈ TT := tt_in (in_5 (List.mem_of_getElem? (i := 178) rfl)) rfl
theorem tw_835 : (Jvm.Cond.instanceMethod ({ cls := "TurningTownModel", name := "nextOrder", desc := "()Z" } : Jvm.MethodName)) ∈ TT := tt_in (in_5 (List.mem_of_getElem? (i := 177) rfl)) rfl
theorem tw_836 : (Cond.selects "TurningTownModel" ⟨"TurningTownModel", "nextOrder", "()Z"⟩ ⟨"TurningTownModel", "nextOrder", "()Z"⟩) ∈ TT := tt_in (is_4 (q := (⟨"TurningTownModel", "nextOrder", "()Z"⟩, 43)) (List.mem_of_getElem? (i := 6) rfl)) rfl
theorem tw_837 : (Jvm.Cond.fieldLink "TurningTownModel" (52 : Nat) "TurningTownModel" "bestOrder" "[I") ∈ TT := tt_in (in_4 (List.mem_of_getElem? (i := 64) rfl)) rfl
theorem tw_838 : (Jvm.Cond.methodLink "TurningTownModel" (250 : Nat) ({ cls := "TurningTownModel", name := "comeTrue", desc := "()I" } : Jvm.MethodName)) ∈ TT := tt_in (in_5 (List.mem_of_getElem? (i := 171) rfl)) rfl
theorem tw_839 : (Jvm.Cond.methodLink "TurningTownModel" (253 : Nat) ({ cls := "TurningTownModel", name := "nextOrder", desc := "()Z" } : Jvm.MethodName)) ∈ TT := tt_in (in_5 (List.mem_of_getElem? (i := 175) rfl)) rfl
theorem tw_840 : (Jvm.Cond.code ({ cls := "TurningTownModel", name := "orderOf", desc := "(I)I" } : Jvm.MethodName) prog_11_method_57_code (5 : Nat) (Option.some Jvm.ClassFile.FieldType.int)) ∈ TT := tt_in (in_5 (List.mem_of_getElem? (i := 170) rfl)) rfl
theorem tw_841 : (Jvm.Cond.instanceMethod ({ cls := "TurningTownModel", name := "orderOf", desc := "(I)I" } : Jvm.MethodName)) ∈ TT := tt_in (in_5 (List.mem_of_getElem? (i := 169) rfl)) rfl
theorem tw_842 : (Cond.selects "TurningTownModel" ⟨"TurningTownModel", "orderOf", "(I)I"⟩ ⟨"TurningTownModel", "orderOf", "(I)I"⟩) ∈ TT := tt_in (is_4 (q := (⟨"TurningTownModel", "orderOf", "(I)I"⟩, 43)) (List.mem_of_getElem? (i := 4) rfl)) rfl
theorem tw_843 : (Jvm.Cond.fieldLink "TurningTownModel" (260 : Nat) "TurningTownModel" "ordersDone" "I") ∈ TT := tt_in (in_4 (List.mem_of_getElem? (i := 62) rfl)) rfl
theorem tw_844 : (Jvm.Cond.methodLink "TurningTownModel" (263 : Nat) ({ cls := "TurningTownModel", name := "orderOf", desc := "(I)I" } : Jvm.MethodName)) ∈ TT := tt_in (in_5 (List.mem_of_getElem? (i := 167) rfl)) rfl
theorem tw_845 : (Jvm.Cond.constantLong "TurningTownModel" (256 : Nat) (10 : Int64)) ∈ TT := tt_in (in_5 (List.mem_of_getElem? (i := 165) rfl)) rfl
theorem tw_846 : (Jvm.Cond.constantLong "TurningTownModel" (258 : Nat) (15 : Int64)) ∈ TT := tt_in (in_5 (List.mem_of_getElem? (i := 166) rfl)) rfl
theorem tw_847 : (Jvm.Cond.code ({ cls := "TurningTownModel", name := "order", desc := "(I)I" } : Jvm.MethodName) prog_11_method_58_code (2 : Nat) (Option.some Jvm.ClassFile.FieldType.int)) ∈ TT := tt_in (in_5 (List.mem_of_getElem? (i := 164) rfl)) rfl
theorem tw_848 : (Jvm.Cond.instanceMethod ({ cls := "TurningTownModel", name := "order", desc := "(I)I" } : Jvm.MethodName)) ∈ TT := tt_in (in_5 (List.mem_of_getElem? (i := 162) rfl)) rfl
theorem tw_849 : (Jvm.Cond.selects "TurningTownModel" ({ cls := "TurningTownModel", name := "order", desc := "(I)I" } : Jvm.MethodName) ({ cls := "TurningTownModel", name := "order", desc := "(I)I" } : Jvm.MethodName)) ∈ TT := tt_in (in_5 (List.mem_of_getElem? (i := 163) rfl)) rfl
theorem tw_850 : (Jvm.Cond.code ({ cls := "TurningTownModel", name := "see", desc := "(III)I" } : Jvm.MethodName) prog_11_method_59_code (4 : Nat) (Option.some Jvm.ClassFile.FieldType.int)) ∈ TT := tt_in (in_5 (List.mem_of_getElem? (i := 182) rfl)) rfl
theorem tw_851 : (Jvm.Cond.instanceMethod ({ cls := "TurningTownModel", name := "see", desc := "(III)I" } : Jvm.MethodName)) ∈ TT := tt_in (in_5 (List.mem_of_getElem? (i := 180) rfl)) rfl
theorem tw_852 : (Jvm.Cond.selects "TurningTownModel" ({ cls := "TurningTownModel", name := "see", desc := "(III)I" } : Jvm.MethodName) ({ cls := "TurningTownModel", name := "see", desc := "(III)I" } : Jvm.MethodName)) ∈ TT := tt_in (in_5 (List.mem_of_getElem? (i := 181) rfl)) rfl
theorem tw_853 : (Jvm.Cond.code ({ cls := "TurningTownModel", name := "forget", desc := "()I" } : Jvm.MethodName) prog_11_method_60_code (2 : Nat) (Option.some Jvm.ClassFile.FieldType.int)) ∈ TT := tt_in (in_5 (List.mem_of_getElem? (i := 186) rfl)) rfl
theorem tw_854 : (Jvm.Cond.instanceMethod ({ cls := "TurningTownModel", name := "forget", desc := "()I" } : Jvm.MethodName)) ∈ TT := tt_in (in_5 (List.mem_of_getElem? (i := 184) rfl)) rfl
theorem tw_855 : (Jvm.Cond.selects "TurningTownModel" ({ cls := "TurningTownModel", name := "forget", desc := "()I" } : Jvm.MethodName) ({ cls := "TurningTownModel", name := "forget", desc := "()I" } : Jvm.MethodName)) ∈ TT := tt_in (in_5 (List.mem_of_getElem? (i := 185) rfl)) rfl
theorem tw_856 : (Jvm.Cond.constantLong "TurningTownModel" (272 : Nat) (1103515245 : Int64)) ∈ TT := tt_in (in_5 (List.mem_of_getElem? (i := 196) rfl)) rfl
theorem tw_857 : (Jvm.Cond.fieldLink "TurningTownModel" (274 : Nat) "TurningTownModel" "seedNow" "I") ∈ TT := tt_in (in_4 (List.mem_of_getElem? (i := 68) rfl)) rfl
theorem tw_858 : (Jvm.Cond.constantLong "TurningTownModel" (277 : Nat) (12345 : Int64)) ∈ TT := tt_in (in_5 (List.mem_of_getElem? (i := 197) rfl)) rfl
theorem tw_859 : (Jvm.Cond.constantLong "TurningTownModel" (279 : Nat) (2147483647 : Int64)) ∈ TT := tt_in (in_5 (List.mem_of_getElem? (i := 198) rfl)) rfl
theorem tw_860 : (Jvm.Cond.constant "TurningTownModel" (281 : Nat) (65536 : Int32)) ∈ TT := tt_in (in_5 (List.mem_of_getElem? (i := 199) rfl)) rfl
theorem tw_861 : (Jvm.Cond.code ({ cls := "TurningTownModel", name := "draw", desc := "(I)I" } : Jvm.MethodName) prog_11_method_65_code (2 : Nat) (Option.some Jvm.ClassFile.FieldType.int)) ∈ TT := tt_in (in_5 (List.mem_of_getElem? (i := 195) rfl)) rfl
theorem tw_862 : (Jvm.Cond.instanceMethod ({ cls := "TurningTownModel", name := "draw", desc := "(I)I" } : Jvm.MethodName)) ∈ TT := tt_in (in_5 (List.mem_of_getElem? (i := 194) rfl)) rfl
theorem tw_863 : (Cond.selects "TurningTownModel" ⟨"TurningTownModel", "draw", "(I)I"⟩ ⟨"TurningTownModel", "draw", "(I)I"⟩) ∈ TT := tt_in (is_4 (q := (⟨"TurningTownModel", "draw", "(I)I"⟩, 43)) (List.mem_of_getElem? (i := 7) rfl)) rfl
theorem tw_864 : (Jvm.Cond.code ({ cls := "TurningTownModel", name := "worthThen", desc := "()I" } : Jvm.MethodName) prog_11_method_66_code (3 : Nat) (Option.some Jvm.ClassFile.FieldType.int)) ∈ TT := tt_in (in_5 (List.mem_of_getElem? (i := 203) rfl)) rfl
theorem tw_865 : (Jvm.Cond.instanceMethod ({ cls := "TurningTownModel", name := "worthThen", desc := "()I" } : Jvm.MethodName)) ∈ TT := tt_in (in_5 (List.mem_of_getElem? (i := 202) rfl)) rfl
theorem tw_866 : (Cond.selects "TurningTownModel" ⟨"TurningTownModel", "worthThen", "()I"⟩ ⟨"TurningTownModel", "worthThen", "()I"⟩) ∈ TT := tt_in (is_4 (q := (⟨"TurningTownModel", "worthThen", "()I"⟩, 43)) (List.mem_of_getElem? (i := 8) rfl)) rfl
theorem tw_867 : (Jvm.Cond.methodLink "TurningTownModel" (284 : Nat) ({ cls := "TurningTownModel", name := "draw", desc := "(I)I" } : Jvm.MethodName)) ∈ TT := tt_in (in_5 (List.mem_of_getElem? (i := 192) rfl)) rfl
theorem tw_868 : (Jvm.Cond.methodLink "TurningTownModel" (287 : Nat) ({ cls := "TurningTownModel", name := "worthThen", desc := "()I" } : Jvm.MethodName)) ∈ TT := tt_in (in_5 (List.mem_of_getElem? (i := 200) rfl)) rfl
theorem tw_869 : (Jvm.Cond.constantLong "TurningTownModel" (282 : Nat) (2 : Int64)) ∈ TT := tt_in (in_5 (List.mem_of_getElem? (i := 191) rfl)) rfl
theorem tw_870 : (Jvm.Cond.code ({ cls := "TurningTownModel", name := "years", desc := "(III)I" } : Jvm.MethodName) prog_11_method_67_code (7 : Nat) (Option.some Jvm.ClassFile.FieldType.int)) ∈ TT := tt_in (in_5 (List.mem_of_getElem? (i := 190) rfl)) rfl
theorem tw_871 : (Jvm.Cond.instanceMethod ({ cls := "TurningTownModel", name := "years", desc := "(III)I" } : Jvm.MethodName)) ∈ TT := tt_in (in_5 (List.mem_of_getElem? (i := 188) rfl)) rfl
theorem tw_872 : (Jvm.Cond.selects "TurningTownModel" ({ cls := "TurningTownModel", name := "years", desc := "(III)I" } : Jvm.MethodName) ({ cls := "TurningTownModel", name := "years", desc := "(III)I" } : Jvm.MethodName)) ∈ TT := tt_in (in_5 (List.mem_of_getElem? (i := 189) rfl)) rfl
theorem tw_873 : (Jvm.Cond.fieldLink "TurningTownModel" (61 : Nat) "TurningTownModel" "keptKinds" "[I") ∈ TT := tt_in (in_4 (List.mem_of_getElem? (i := 75) rfl)) rfl
theorem tw_874 : (Jvm.Cond.fieldLink "TurningTownModel" (64 : Nat) "TurningTownModel" "keptPlots" "[I") ∈ TT := tt_in (in_4 (List.mem_of_getElem? (i := 76) rfl)) rfl
theorem tw_875 : (Jvm.Cond.fieldLink "TurningTownModel" (67 : Nat) "TurningTownModel" "keptRow" "[I") ∈ TT := tt_in (in_4 (List.mem_of_getElem? (i := 77) rfl)) rfl
theorem tw_876 : (Jvm.Cond.fieldLink "TurningTownModel" (70 : Nat) "TurningTownModel" "keptHad" "[I") ∈ TT := tt_in (in_4 (List.mem_of_getElem? (i := 78) rfl)) rfl
theorem tw_877 : (Jvm.Cond.fieldLink "TurningTownModel" (73 : Nat) "TurningTownModel" "keptWishes" "[I") ∈ TT := tt_in (in_4 (List.mem_of_getElem? (i := 79) rfl)) rfl
theorem tw_878 : (Jvm.Cond.fieldLink "TurningTownModel" (76 : Nat) "TurningTownModel" "keptSights" "[I") ∈ TT := tt_in (in_4 (List.mem_of_getElem? (i := 80) rfl)) rfl
theorem tw_879 : (Jvm.Cond.fieldLink "TurningTownModel" (290 : Nat) "TurningTownModel" "keptFront" "I") ∈ TT := tt_in (in_4 (List.mem_of_getElem? (i := 70) rfl)) rfl
theorem tw_880 : (Jvm.Cond.fieldLink "TurningTownModel" (293 : Nat) "TurningTownModel" "keptDown" "I") ∈ TT := tt_in (in_4 (List.mem_of_getElem? (i := 71) rfl)) rfl
theorem tw_881 : (Jvm.Cond.fieldLink "TurningTownModel" (296 : Nat) "TurningTownModel" "keptNights" "I") ∈ TT := tt_in (in_4 (List.mem_of_getElem? (i := 72) rfl)) rfl
theorem tw_882 : (Jvm.Cond.fieldLink "TurningTownModel" (299 : Nat) "TurningTownModel" "keptWishesMany" "I") ∈ TT := tt_in (in_4 (List.mem_of_getElem? (i := 73) rfl)) rfl
theorem tw_883 : (Jvm.Cond.fieldLink "TurningTownModel" (302 : Nat) "TurningTownModel" "keptSeen" "I") ∈ TT := tt_in (in_4 (List.mem_of_getElem? (i := 74) rfl)) rfl
theorem tw_884 : (Jvm.Cond.fieldLink "TurningTownModel" (79 : Nat) "TurningTownModel" "keptSquare" "I") ∈ TT := tt_in (in_4 (List.mem_of_getElem? (i := 69) rfl)) rfl
theorem tw_885 : (Jvm.Cond.code ({ cls := "TurningTownModel", name := "image", desc := "()I" } : Jvm.MethodName) prog_11_method_68_code (1 : Nat) (Option.some Jvm.ClassFile.FieldType.int)) ∈ TT := tt_in (in_5 (List.mem_of_getElem? (i := 207) rfl)) rfl
theorem tw_886 : (Jvm.Cond.instanceMethod ({ cls := "TurningTownModel", name := "image", desc := "()I" } : Jvm.MethodName)) ∈ TT := tt_in (in_5 (List.mem_of_getElem? (i := 205) rfl)) rfl
theorem tw_887 : (Jvm.Cond.selects "TurningTownModel" ({ cls := "TurningTownModel", name := "image", desc := "()I" } : Jvm.MethodName) ({ cls := "TurningTownModel", name := "image", desc := "()I" } : Jvm.MethodName)) ∈ TT := tt_in (in_5 (List.mem_of_getElem? (i := 206) rfl)) rfl
theorem tw_888 : (Jvm.Cond.code ({ cls := "TurningTownModel", name := "restore", desc := "()I" } : Jvm.MethodName) prog_11_method_69_code (1 : Nat) (Option.some Jvm.ClassFile.FieldType.int)) ∈ TT := tt_in (in_5 (List.mem_of_getElem? (i := 211) rfl)) rfl
theorem tw_889 : (Jvm.Cond.instanceMethod ({ cls := "TurningTownModel", name := "restore", desc := "()I" } : Jvm.MethodName)) ∈ TT := tt_in (in_5 (List.mem_of_getElem? (i := 209) rfl)) rfl
theorem tw_890 : (Jvm.Cond.selects "TurningTownModel" ({ cls := "TurningTownModel", name := "restore", desc := "()I" } : Jvm.MethodName) ({ cls := "TurningTownModel", name := "restore", desc := "()I" } : Jvm.MethodName)) ∈ TT := tt_in (in_5 (List.mem_of_getElem? (i := 210) rfl)) rfl
theorem tw_891 : (Jvm.Cond.code ({ cls := "TurningTownModel", name := "standing", desc := "()I" } : Jvm.MethodName) prog_11_method_70_code (3 : Nat) (Option.some Jvm.ClassFile.FieldType.int)) ∈ TT := tt_in (in_5 (List.mem_of_getElem? (i := 223) rfl)) rfl
theorem tw_892 : (Jvm.Cond.instanceMethod ({ cls := "TurningTownModel", name := "standing", desc := "()I" } : Jvm.MethodName)) ∈ TT := tt_in (in_5 (List.mem_of_getElem? (i := 222) rfl)) rfl
theorem tw_893 : (Cond.selects "TurningTownModel" ⟨"TurningTownModel", "standing", "()I"⟩ ⟨"TurningTownModel", "standing", "()I"⟩) ∈ TT := tt_in (is_4 (q := (⟨"TurningTownModel", "standing", "()I"⟩, 43)) (List.mem_of_getElem? (i := 10) rfl)) rfl
theorem tw_894 : (Jvm.Cond.code ({ cls := "TurningTownModel", name := "worthNow", desc := "()I" } : Jvm.MethodName) prog_11_method_71_code (3 : Nat) (Option.some Jvm.ClassFile.FieldType.int)) ∈ TT := tt_in (in_5 (List.mem_of_getElem? (i := 227) rfl)) rfl
theorem tw_895 : (Jvm.Cond.instanceMethod ({ cls := "TurningTownModel", name := "worthNow", desc := "()I" } : Jvm.MethodName)) ∈ TT := tt_in (in_5 (List.mem_of_getElem? (i := 226) rfl)) rfl
theorem tw_896 : (Cond.selects "TurningTownModel" ⟨"TurningTownModel", "worthNow", "()I"⟩ ⟨"TurningTownModel", "worthNow", "()I"⟩) ∈ TT := tt_in (is_4 (q := (⟨"TurningTownModel", "worthNow", "()I"⟩, 43)) (List.mem_of_getElem? (i := 11) rfl)) rfl
theorem tw_897 : (Jvm.Cond.code ({ cls := "TurningTownModel", name := "hadAll", desc := "()I" } : Jvm.MethodName) prog_11_method_72_code (3 : Nat) (Option.some Jvm.ClassFile.FieldType.int)) ∈ TT := tt_in (in_5 (List.mem_of_getElem? (i := 231) rfl)) rfl
theorem tw_898 : (Jvm.Cond.instanceMethod ({ cls := "TurningTownModel", name := "hadAll", desc := "()I" } : Jvm.MethodName)) ∈ TT := tt_in (in_5 (List.mem_of_getElem? (i := 230) rfl)) rfl
theorem tw_899 : (Cond.selects "TurningTownModel" ⟨"TurningTownModel", "hadAll", "()I"⟩ ⟨"TurningTownModel", "hadAll", "()I"⟩) ∈ TT := tt_in (is_4 (q := (⟨"TurningTownModel", "hadAll", "()I"⟩, 43)) (List.mem_of_getElem? (i := 12) rfl)) rfl
theorem tw_900 : (Jvm.Cond.methodLink "TurningTownModel" (305 : Nat) ({ cls := "TurningTownModel", name := "standing", desc := "()I" } : Jvm.MethodName)) ∈ TT := tt_in (in_5 (List.mem_of_getElem? (i := 220) rfl)) rfl
theorem tw_901 : (Jvm.Cond.methodLink "TurningTownModel" (308 : Nat) ({ cls := "TurningTownModel", name := "worthNow", desc := "()I" } : Jvm.MethodName)) ∈ TT := tt_in (in_5 (List.mem_of_getElem? (i := 224) rfl)) rfl
theorem tw_902 : (Jvm.Cond.methodLink "TurningTownModel" (311 : Nat) ({ cls := "TurningTownModel", name := "hadAll", desc := "()I" } : Jvm.MethodName)) ∈ TT := tt_in (in_5 (List.mem_of_getElem? (i := 228) rfl)) rfl
theorem tw_903 : (Jvm.Cond.code ({ cls := "TurningTownModel", name := "countOf", desc := "(I)I" } : Jvm.MethodName) prog_11_method_73_code (2 : Nat) (Option.some Jvm.ClassFile.FieldType.int)) ∈ TT := tt_in (in_5 (List.mem_of_getElem? (i := 219) rfl)) rfl
theorem tw_904 : (Jvm.Cond.instanceMethod ({ cls := "TurningTownModel", name := "countOf", desc := "(I)I" } : Jvm.MethodName)) ∈ TT := tt_in (in_5 (List.mem_of_getElem? (i := 218) rfl)) rfl
theorem tw_905 : (Cond.selects "TurningTownModel" ⟨"TurningTownModel", "countOf", "(I)I"⟩ ⟨"TurningTownModel", "countOf", "(I)I"⟩) ∈ TT := tt_in (is_4 (q := (⟨"TurningTownModel", "countOf", "(I)I"⟩, 43)) (List.mem_of_getElem? (i := 9) rfl)) rfl
theorem tw_906 : (Jvm.Cond.methodLink "TurningTownModel" (314 : Nat) ({ cls := "TurningTownModel", name := "countOf", desc := "(I)I" } : Jvm.MethodName)) ∈ TT := tt_in (in_5 (List.mem_of_getElem? (i := 216) rfl)) rfl
theorem tw_907 : (Jvm.Cond.code ({ cls := "TurningTownModel", name := "count", desc := "(I)I" } : Jvm.MethodName) prog_11_method_74_code (2 : Nat) (Option.some Jvm.ClassFile.FieldType.int)) ∈ TT := tt_in (in_5 (List.mem_of_getElem? (i := 215) rfl)) rfl
theorem tw_908 : (Jvm.Cond.instanceMethod ({ cls := "TurningTownModel", name := "count", desc := "(I)I" } : Jvm.MethodName)) ∈ TT := tt_in (in_5 (List.mem_of_getElem? (i := 213) rfl)) rfl
theorem tw_909 : (Jvm.Cond.selects "TurningTownModel" ({ cls := "TurningTownModel", name := "count", desc := "(I)I" } : Jvm.MethodName) ({ cls := "TurningTownModel", name := "count", desc := "(I)I" } : Jvm.MethodName)) ∈ TT := tt_in (in_5 (List.mem_of_getElem? (i := 214) rfl)) rfl
theorem tw_910 : (Jvm.Cond.constantLong "TurningTownModel" (317 : Nat) (31 : Int64)) ∈ TT := tt_in (in_6 (List.mem_of_getElem? (i := 5) rfl)) rfl
theorem tw_911 : (Jvm.Cond.fieldLink "TurningTownModel" (319 : Nat) "TurningTownModel" "hash" "J") ∈ TT := tt_in (in_4 (List.mem_of_getElem? (i := 81) rfl)) rfl
theorem tw_912 : (Jvm.Cond.code ({ cls := "TurningTownModel", name := "say", desc := "(J)V" } : Jvm.MethodName) prog_11_method_75_code (3 : Nat) (Option.none : Option Jvm.ClassFile.FieldType)) ∈ TT := tt_in (in_6 (List.mem_of_getElem? (i := 4) rfl)) rfl
theorem tw_913 : (Jvm.Cond.instanceMethod ({ cls := "TurningTownModel", name := "say", desc := "(J)V" } : Jvm.MethodName)) ∈ TT := tt_in (in_6 (List.mem_of_getElem? (i := 3) rfl)) rfl
theorem tw_914 : (Cond.selects "TurningTownModel" ⟨"TurningTownModel", "say", "(J)V"⟩ ⟨"TurningTownModel", "say", "(J)V"⟩) ∈ TT := tt_in (is_4 (q := (⟨"TurningTownModel", "say", "(J)V"⟩, 43)) (List.mem_of_getElem? (i := 14) rfl)) rfl
theorem tw_915 : (Jvm.Cond.methodLink "TurningTownModel" (323 : Nat) ({ cls := "TurningTownModel", name := "say", desc := "(J)V" } : Jvm.MethodName)) ∈ TT := tt_in (in_6 (List.mem_of_getElem? (i := 1) rfl)) rfl
theorem tw_916 : (Jvm.Cond.code ({ cls := "TurningTownModel", name := "sayHouse", desc := "(I)V" } : Jvm.MethodName) prog_11_method_76_code (3 : Nat) (Option.none : Option Jvm.ClassFile.FieldType)) ∈ TT := tt_in (in_6 (List.mem_of_getElem? (i := 0) rfl)) rfl
theorem tw_917 : (Jvm.Cond.instanceMethod ({ cls := "TurningTownModel", name := "sayHouse", desc := "(I)V" } : Jvm.MethodName)) ∈ TT := tt_in (in_5 (List.mem_of_getElem? (i := 239) rfl)) rfl
theorem tw_918 : (Cond.selects "TurningTownModel" ⟨"TurningTownModel", "sayHouse", "(I)V"⟩ ⟨"TurningTownModel", "sayHouse", "(I)V"⟩) ∈ TT := tt_in (is_4 (q := (⟨"TurningTownModel", "sayHouse", "(I)V"⟩, 43)) (List.mem_of_getElem? (i := 13) rfl)) rfl
theorem tw_919 : (Jvm.Cond.code ({ cls := "TurningTownModel", name := "saySquare", desc := "()V" } : Jvm.MethodName) prog_11_method_77_code (3 : Nat) (Option.none : Option Jvm.ClassFile.FieldType)) ∈ TT := tt_in (in_6 (List.mem_of_getElem? (i := 9) rfl)) rfl
theorem tw_920 : (Jvm.Cond.instanceMethod ({ cls := "TurningTownModel", name := "saySquare", desc := "()V" } : Jvm.MethodName)) ∈ TT := tt_in (in_6 (List.mem_of_getElem? (i := 8) rfl)) rfl
theorem tw_921 : (Cond.selects "TurningTownModel" ⟨"TurningTownModel", "saySquare", "()V"⟩ ⟨"TurningTownModel", "saySquare", "()V"⟩) ∈ TT := tt_in (is_4 (q := (⟨"TurningTownModel", "saySquare", "()V"⟩, 43)) (List.mem_of_getElem? (i := 15) rfl)) rfl
theorem tw_922 : (Jvm.Cond.methodLink "TurningTownModel" (332 : Nat) ({ cls := "TurningTownModel", name := "saySquare", desc := "()V" } : Jvm.MethodName)) ∈ TT := tt_in (in_6 (List.mem_of_getElem? (i := 6) rfl)) rfl
theorem tw_923 : (Jvm.Cond.methodLink "TurningTownModel" (329 : Nat) ({ cls := "TurningTownModel", name := "sayHouse", desc := "(I)V" } : Jvm.MethodName)) ∈ TT := tt_in (in_5 (List.mem_of_getElem? (i := 237) rfl)) rfl
theorem tw_924 : (Jvm.Cond.constantLong "TurningTownModel" (327 : Nat) (1193 : Int64)) ∈ TT := tt_in (in_5 (List.mem_of_getElem? (i := 236) rfl)) rfl
theorem tw_925 : (Jvm.Cond.code ({ cls := "TurningTownModel", name := "digest", desc := "()J" } : Jvm.MethodName) prog_11_method_78_code (2 : Nat) (Option.some Jvm.ClassFile.FieldType.long)) ∈ TT := tt_in (in_5 (List.mem_of_getElem? (i := 235) rfl)) rfl
theorem tw_926 : (Jvm.Cond.instanceMethod ({ cls := "TurningTownModel", name := "digest", desc := "()J" } : Jvm.MethodName)) ∈ TT := tt_in (in_5 (List.mem_of_getElem? (i := 233) rfl)) rfl
theorem tw_927 : (Jvm.Cond.selects "TurningTownModel" ({ cls := "TurningTownModel", name := "digest", desc := "()J" } : Jvm.MethodName) ({ cls := "TurningTownModel", name := "digest", desc := "()J" } : Jvm.MethodName)) ∈ TT := tt_in (in_5 (List.mem_of_getElem? (i := 234) rfl)) rfl
theorem tw_928 : (Jvm.Cond.methodLink "TurningTown$Page" (3 : Nat) ({ cls := "java/lang/Object", name := "<init>", desc := "()V" } : Jvm.MethodName)) ∈ TT := tt_in (in_1 (List.mem_of_getElem? (i := 31) rfl)) rfl
theorem tw_929 : (Jvm.Cond.instanceMethod ({ cls := "java/lang/Object", name := "<init>", desc := "()V" } : Jvm.MethodName)) ∈ TT := tt_in (in_1 (List.mem_of_getElem? (i := 24) rfl)) rfl
theorem tw_930 : (Jvm.Cond.code ({ cls := "java/lang/Object", name := "<init>", desc := "()V" } : Jvm.MethodName) object_method_1_code (1 : Nat) (Option.none : Option Jvm.ClassFile.FieldType)) ∈ TT := tt_in (in_1 (List.mem_of_getElem? (i := 25) rfl)) rfl
theorem tw_931 : (Jvm.Cond.arrayClass Jvm.ClassFile.FieldType.int) ∈ TT := tt_in (in_1 (List.mem_of_getElem? (i := 41) rfl)) rfl
theorem tw_932 : (Jvm.Cond.code ({ cls := "TurningTown$Page", name := "<init>", desc := "()V" } : Jvm.MethodName) prog_5_method_1_code (1 : Nat) (Option.none : Option Jvm.ClassFile.FieldType)) ∈ TT := tt_in (in_1 (List.mem_of_getElem? (i := 30) rfl)) rfl
theorem tw_933 : (Jvm.Cond.instanceMethod ({ cls := "TurningTown$Page", name := "<init>", desc := "()V" } : Jvm.MethodName)) ∈ TT := tt_in (in_1 (List.mem_of_getElem? (i := 29) rfl)) rfl
theorem tw_934 : (Jvm.Cond.methodLink "TurningTown$Ground" (3 : Nat) ({ cls := "java/lang/Object", name := "<init>", desc := "()V" } : Jvm.MethodName)) ∈ TT := tt_in (in_1 (List.mem_of_getElem? (i := 47) rfl)) rfl
theorem tw_935 : (Jvm.Cond.code ({ cls := "TurningTown$Ground", name := "<init>", desc := "()V" } : Jvm.MethodName) prog_2_method_1_code (1 : Nat) (Option.none : Option Jvm.ClassFile.FieldType)) ∈ TT := tt_in (in_1 (List.mem_of_getElem? (i := 46) rfl)) rfl
theorem tw_936 : (Jvm.Cond.instanceMethod ({ cls := "TurningTown$Ground", name := "<init>", desc := "()V" } : Jvm.MethodName)) ∈ TT := tt_in (in_1 (List.mem_of_getElem? (i := 45) rfl)) rfl
theorem tw_937 : (Jvm.Cond.methodLink "TurningTown$Notes" (3 : Nat) ({ cls := "java/lang/Object", name := "<init>", desc := "()V" } : Jvm.MethodName)) ∈ TT := tt_in (in_1 (List.mem_of_getElem? (i := 117) rfl)) rfl
theorem tw_938 : (Jvm.Cond.code ({ cls := "TurningTown$Notes", name := "<init>", desc := "(I)V" } : Jvm.MethodName) prog_4_method_1_code (3 : Nat) (Option.none : Option Jvm.ClassFile.FieldType)) ∈ TT := tt_in (in_1 (List.mem_of_getElem? (i := 116) rfl)) rfl
theorem tw_939 : (Jvm.Cond.instanceMethod ({ cls := "TurningTown$Notes", name := "<init>", desc := "(I)V" } : Jvm.MethodName)) ∈ TT := tt_in (in_1 (List.mem_of_getElem? (i := 115) rfl)) rfl
theorem tw_940 : (Jvm.Cond.methodLink "TurningTown$Town" (3 : Nat) ({ cls := "java/lang/Object", name := "<init>", desc := "()V" } : Jvm.MethodName)) ∈ TT := tt_in (in_1 (List.mem_of_getElem? (i := 73) rfl)) rfl
theorem tw_941 : (Jvm.Cond.code ({ cls := "TurningTown$Town", name := "<init>", desc := "()V" } : Jvm.MethodName) prog_8_method_1_code (1 : Nat) (Option.none : Option Jvm.ClassFile.FieldType)) ∈ TT := tt_in (in_1 (List.mem_of_getElem? (i := 72) rfl)) rfl
theorem tw_942 : (Jvm.Cond.instanceMethod ({ cls := "TurningTown$Town", name := "<init>", desc := "()V" } : Jvm.MethodName)) ∈ TT := tt_in (in_1 (List.mem_of_getElem? (i := 71) rfl)) rfl
theorem tw_943 : (Jvm.Cond.methodLink "TurningTown$Story" (3 : Nat) ({ cls := "java/lang/Object", name := "<init>", desc := "()V" } : Jvm.MethodName)) ∈ TT := tt_in (in_1 (List.mem_of_getElem? (i := 67) rfl)) rfl
theorem tw_944 : (Jvm.Cond.classLink "TurningTown$Story" (9 : Nat) "TurningTown$Town") ∈ TT := tt_in (in_1 (List.mem_of_getElem? (i := 68) rfl)) rfl
theorem tw_945 : (Jvm.Cond.instantiable "TurningTown$Town" (7 : Nat)) ∈ TT := tt_in (in_1 (List.mem_of_getElem? (i := 69) rfl)) rfl
theorem tw_946 : (Jvm.Cond.classLink "TurningTown$Story" (22 : Nat) "TurningTown$Notes") ∈ TT := tt_in (in_1 (List.mem_of_getElem? (i := 112) rfl)) rfl
theorem tw_947 : (Jvm.Cond.instantiable "TurningTown$Notes" (4 : Nat)) ∈ TT := tt_in (in_1 (List.mem_of_getElem? (i := 113) rfl)) rfl
theorem tw_948 : (Jvm.Cond.methodLink "TurningTown$Story" (24 : Nat) ({ cls := "TurningTown$Notes", name := "<init>", desc := "(I)V" } : Jvm.MethodName)) ∈ TT := tt_in (in_1 (List.mem_of_getElem? (i := 114) rfl)) rfl
theorem tw_949 : (Jvm.Cond.code ({ cls := "TurningTown$Story", name := "<init>", desc := "()V" } : Jvm.MethodName) prog_7_method_1_code (1 : Nat) (Option.none : Option Jvm.ClassFile.FieldType)) ∈ TT := tt_in (in_1 (List.mem_of_getElem? (i := 66) rfl)) rfl
theorem tw_950 : (Jvm.Cond.instanceMethod ({ cls := "TurningTown$Story", name := "<init>", desc := "()V" } : Jvm.MethodName)) ∈ TT := tt_in (in_1 (List.mem_of_getElem? (i := 65) rfl)) rfl
theorem tw_951 : (Jvm.Cond.methodLink "TurningTown$Trade" (3 : Nat) ({ cls := "java/lang/Object", name := "<init>", desc := "()V" } : Jvm.MethodName)) ∈ TT := tt_in (in_1 (List.mem_of_getElem? (i := 170) rfl)) rfl
theorem tw_952 : (Jvm.Cond.arrayClass Jvm.ClassFile.FieldType.boolean) ∈ TT := tt_in (in_1 (List.mem_of_getElem? (i := 186) rfl)) rfl
theorem tw_953 : (Jvm.Cond.code ({ cls := "TurningTown$Trade", name := "<init>", desc := "()V" } : Jvm.MethodName) prog_9_method_1_code (1 : Nat) (Option.none : Option Jvm.ClassFile.FieldType)) ∈ TT := tt_in (in_1 (List.mem_of_getElem? (i := 169) rfl)) rfl
theorem tw_954 : (Jvm.Cond.instanceMethod ({ cls := "TurningTown$Trade", name := "<init>", desc := "()V" } : Jvm.MethodName)) ∈ TT := tt_in (in_1 (List.mem_of_getElem? (i := 168) rfl)) rfl
theorem tw_955 : (Jvm.Cond.methodLink "TurningTown$Plan" (3 : Nat) ({ cls := "java/lang/Object", name := "<init>", desc := "()V" } : Jvm.MethodName)) ∈ TT := tt_in (in_1 (List.mem_of_getElem? (i := 192) rfl)) rfl
theorem tw_956 : (Jvm.Cond.classLink "TurningTown$Plan" (18 : Nat) "TurningTown$Town") ∈ TT := tt_in (in_1 (List.mem_of_getElem? (i := 193) rfl)) rfl
theorem tw_957 : (Jvm.Cond.code ({ cls := "TurningTown$Plan", name := "<init>", desc := "()V" } : Jvm.MethodName) prog_6_method_1_code (1 : Nat) (Option.none : Option Jvm.ClassFile.FieldType)) ∈ TT := tt_in (in_1 (List.mem_of_getElem? (i := 191) rfl)) rfl
theorem tw_958 : (Jvm.Cond.instanceMethod ({ cls := "TurningTown$Plan", name := "<init>", desc := "()V" } : Jvm.MethodName)) ∈ TT := tt_in (in_1 (List.mem_of_getElem? (i := 190) rfl)) rfl
theorem tw_959 : (Jvm.Cond.methodLink "TurningTown$Guess" (3 : Nat) ({ cls := "java/lang/Object", name := "<init>", desc := "()V" } : Jvm.MethodName)) ∈ TT := tt_in (in_1 (List.mem_of_getElem? (i := 215) rfl)) rfl
theorem tw_960 : (Jvm.Cond.classLink "TurningTown$Guess" (9 : Nat) "[[I") ∈ TT := tt_in (in_1 (List.mem_of_getElem? (i := 216) rfl)) rfl
theorem tw_961 : (Jvm.Cond.classLink "TurningTown$Guess" (16 : Nat) "TurningTown$Town") ∈ TT := tt_in (in_1 (List.mem_of_getElem? (i := 218) rfl)) rfl
theorem tw_962 : (Jvm.Cond.code ({ cls := "TurningTown$Guess", name := "<init>", desc := "()V" } : Jvm.MethodName) prog_3_method_1_code (1 : Nat) (Option.none : Option Jvm.ClassFile.FieldType)) ∈ TT := tt_in (in_1 (List.mem_of_getElem? (i := 214) rfl)) rfl
theorem tw_963 : (Jvm.Cond.instanceMethod ({ cls := "TurningTown$Guess", name := "<init>", desc := "()V" } : Jvm.MethodName)) ∈ TT := tt_in (in_1 (List.mem_of_getElem? (i := 213) rfl)) rfl
theorem tw_964 : (Jvm.Cond.methodLink "TurningTown" (1 : Nat) ({ cls := "java/lang/Object", name := "<init>", desc := "()V" } : Jvm.MethodName)) ∈ TT := tt_in (in_1 (List.mem_of_getElem? (i := 23) rfl)) rfl
theorem tw_965 : (Jvm.Cond.classLink "TurningTown" (7 : Nat) "TurningTown$Page") ∈ TT := tt_in (in_1 (List.mem_of_getElem? (i := 26) rfl)) rfl
theorem tw_966 : (Jvm.Cond.instantiable "TurningTown$Page" (2 : Nat)) ∈ TT := tt_in (in_1 (List.mem_of_getElem? (i := 27) rfl)) rfl
theorem tw_967 : (Jvm.Cond.classLink "TurningTown" (16 : Nat) "TurningTown$Ground") ∈ TT := tt_in (in_1 (List.mem_of_getElem? (i := 42) rfl)) rfl
theorem tw_968 : (Jvm.Cond.instantiable "TurningTown$Ground" (3 : Nat)) ∈ TT := tt_in (in_1 (List.mem_of_getElem? (i := 43) rfl)) rfl
theorem tw_969 : (Jvm.Cond.classLink "TurningTown" (23 : Nat) "TurningTown$Story") ∈ TT := tt_in (in_1 (List.mem_of_getElem? (i := 62) rfl)) rfl
theorem tw_970 : (Jvm.Cond.instantiable "TurningTown$Story" (5 : Nat)) ∈ TT := tt_in (in_1 (List.mem_of_getElem? (i := 63) rfl)) rfl
theorem tw_971 : (Jvm.Cond.classLink "TurningTown" (33 : Nat) "TurningTown$Town") ∈ TT := tt_in (in_1 (List.mem_of_getElem? (i := 163) rfl)) rfl
theorem tw_972 : (Jvm.Cond.classLink "TurningTown" (40 : Nat) "TurningTown$Trade") ∈ TT := tt_in (in_1 (List.mem_of_getElem? (i := 165) rfl)) rfl
theorem tw_973 : (Jvm.Cond.instantiable "TurningTown$Trade" (4 : Nat)) ∈ TT := tt_in (in_1 (List.mem_of_getElem? (i := 166) rfl)) rfl
theorem tw_974 : (Jvm.Cond.classLink "TurningTown" (47 : Nat) "TurningTown$Plan") ∈ TT := tt_in (in_1 (List.mem_of_getElem? (i := 187) rfl)) rfl
theorem tw_975 : (Jvm.Cond.instantiable "TurningTown$Plan" (4 : Nat)) ∈ TT := tt_in (in_1 (List.mem_of_getElem? (i := 188) rfl)) rfl
theorem tw_976 : (Jvm.Cond.classLink "TurningTown" (54 : Nat) "TurningTown$Guess") ∈ TT := tt_in (in_1 (List.mem_of_getElem? (i := 210) rfl)) rfl
theorem tw_977 : (Jvm.Cond.instantiable "TurningTown$Guess" (2 : Nat)) ∈ TT := tt_in (in_1 (List.mem_of_getElem? (i := 211) rfl)) rfl
theorem tw_978 : (Jvm.Cond.code ({ cls := "TurningTown", name := "<init>", desc := "()V" } : Jvm.MethodName) prog_1_method_1_code (1 : Nat) (Option.none : Option Jvm.ClassFile.FieldType)) ∈ TT := tt_in (in_1 (List.mem_of_getElem? (i := 22) rfl)) rfl
theorem tw_979 : (Jvm.Cond.instanceMethod ({ cls := "TurningTown", name := "<init>", desc := "()V" } : Jvm.MethodName)) ∈ TT := tt_in (in_1 (List.mem_of_getElem? (i := 21) rfl)) rfl
theorem tw_980 : (Jvm.Cond.methodLink "TurningTownModel" (1 : Nat) ({ cls := "java/lang/Object", name := "<init>", desc := "()V" } : Jvm.MethodName)) ∈ TT := tt_in (in_4 (List.mem_of_getElem? (i := 38) rfl)) rfl
theorem tw_981 : (Jvm.Cond.code ({ cls := "TurningTownModel", name := "<init>", desc := "()V" } : Jvm.MethodName) prog_11_method_1_code (1 : Nat) (Option.none : Option Jvm.ClassFile.FieldType)) ∈ TT := tt_in (in_4 (List.mem_of_getElem? (i := 37) rfl)) rfl
theorem tw_982 : (Jvm.Cond.instanceMethod ({ cls := "TurningTownModel", name := "<init>", desc := "()V" } : Jvm.MethodName)) ∈ TT := tt_in (in_4 (List.mem_of_getElem? (i := 36) rfl)) rfl
theorem tw_983 : (Jvm.Cond.methodLink "TurningTownLaw" (13 : Nat) ({ cls := "TurningTown", name := "letter", desc := "(I)I" } : Jvm.MethodName)) ∈ TT := tt_in (in_2 (List.mem_of_getElem? (i := 21) rfl)) rfl
theorem tw_984 : (Jvm.Cond.methodLink "TurningTownLaw" (17 : Nat) ({ cls := "TurningTownModel", name := "letter", desc := "(I)I" } : Jvm.MethodName)) ∈ TT := tt_in (in_4 (List.mem_of_getElem? (i := 169) rfl)) rfl
theorem tw_985 : (Jvm.Cond.methodLink "TurningTownLaw" (18 : Nat) ({ cls := "TurningTown", name := "blank", desc := "()I" } : Jvm.MethodName)) ∈ TT := tt_in (in_2 (List.mem_of_getElem? (i := 29) rfl)) rfl
theorem tw_986 : (Jvm.Cond.methodLink "TurningTownLaw" (22 : Nat) ({ cls := "TurningTownModel", name := "blank", desc := "()I" } : Jvm.MethodName)) ∈ TT := tt_in (in_4 (List.mem_of_getElem? (i := 177) rfl)) rfl
theorem tw_987 : (Jvm.Cond.methodLink "TurningTownLaw" (23 : Nat) ({ cls := "TurningTown", name := "fault", desc := "()I" } : Jvm.MethodName)) ∈ TT := tt_in (in_2 (List.mem_of_getElem? (i := 33) rfl)) rfl
theorem tw_988 : (Jvm.Cond.methodLink "TurningTownLaw" (26 : Nat) ({ cls := "TurningTownModel", name := "fault", desc := "()I" } : Jvm.MethodName)) ∈ TT := tt_in (in_4 (List.mem_of_getElem? (i := 181) rfl)) rfl
theorem tw_989 : (Jvm.Cond.methodLink "TurningTownLaw" (27 : Nat) ({ cls := "TurningTown", name := "square", desc := "()I" } : Jvm.MethodName)) ∈ TT := tt_in (in_2 (List.mem_of_getElem? (i := 133) rfl)) rfl
theorem tw_990 : (Jvm.Cond.methodLink "TurningTownLaw" (30 : Nat) ({ cls := "TurningTownModel", name := "square", desc := "()I" } : Jvm.MethodName)) ∈ TT := tt_in (in_4 (List.mem_of_getElem? (i := 199) rfl)) rfl
theorem tw_991 : (Jvm.Cond.methodLink "TurningTownLaw" (31 : Nat) ({ cls := "TurningTown", name := "house", desc := "(II)I" } : Jvm.MethodName)) ∈ TT := tt_in (in_2 (List.mem_of_getElem? (i := 179) rfl)) rfl
theorem tw_992 : (Jvm.Cond.methodLink "TurningTownLaw" (35 : Nat) ({ cls := "TurningTownModel", name := "house", desc := "(II)I" } : Jvm.MethodName)) ∈ TT := tt_in (in_5 (List.mem_of_getElem? (i := 23) rfl)) rfl
theorem tw_993 : (Jvm.Cond.methodLink "TurningTownLaw" (36 : Nat) ({ cls := "TurningTown", name := "as", desc := "(II)I" } : Jvm.MethodName)) ∈ TT := tt_in (in_3 (List.mem_of_getElem? (i := 53) rfl)) rfl
theorem tw_994 : (Jvm.Cond.methodLink "TurningTownLaw" (39 : Nat) ({ cls := "TurningTownModel", name := "as", desc := "(II)I" } : Jvm.MethodName)) ∈ TT := tt_in (in_5 (List.mem_of_getElem? (i := 78) rfl)) rfl
theorem tw_995 : (Jvm.Cond.methodLink "TurningTownLaw" (40 : Nat) ({ cls := "TurningTown", name := "plot", desc := "(II)I" } : Jvm.MethodName)) ∈ TT := tt_in (in_3 (List.mem_of_getElem? (i := 60) rfl)) rfl
theorem tw_996 : (Jvm.Cond.methodLink "TurningTownLaw" (43 : Nat) ({ cls := "TurningTownModel", name := "plot", desc := "(II)I" } : Jvm.MethodName)) ∈ TT := tt_in (in_5 (List.mem_of_getElem? (i := 82) rfl)) rfl
theorem tw_997 : (Jvm.Cond.methodLink "TurningTownLaw" (44 : Nat) ({ cls := "TurningTown", name := "night", desc := "()I" } : Jvm.MethodName)) ∈ TT := tt_in (in_3 (List.mem_of_getElem? (i := 75) rfl)) rfl
theorem tw_998 : (Jvm.Cond.methodLink "TurningTownLaw" (47 : Nat) ({ cls := "TurningTownModel", name := "night", desc := "()I" } : Jvm.MethodName)) ∈ TT := tt_in (in_4 (List.mem_of_getElem? (i := 203) rfl)) rfl
theorem tw_999 : (Jvm.Cond.methodLink "TurningTownLaw" (48 : Nat) ({ cls := "TurningTown", name := "snow", desc := "()I" } : Jvm.MethodName)) ∈ TT := tt_in (in_3 (List.mem_of_getElem? (i := 89) rfl)) rfl
theorem tw_1000 : (Jvm.Cond.methodLink "TurningTownLaw" (51 : Nat) ({ cls := "TurningTownModel", name := "snow", desc := "()I" } : Jvm.MethodName)) ∈ TT := tt_in (in_5 (List.mem_of_getElem? (i := 2) rfl)) rfl
theorem tw_1001 : (Jvm.Cond.methodLink "TurningTownLaw" (52 : Nat) ({ cls := "TurningTown", name := "build", desc := "(II)I" } : Jvm.MethodName)) ∈ TT := tt_in (in_3 (List.mem_of_getElem? (i := 93) rfl)) rfl
theorem tw_1002 : (Jvm.Cond.methodLink "TurningTownLaw" (55 : Nat) ({ cls := "TurningTownModel", name := "build", desc := "(II)I" } : Jvm.MethodName)) ∈ TT := tt_in (in_5 (List.mem_of_getElem? (i := 6) rfl)) rfl
theorem tw_1003 : (Jvm.Cond.methodLink "TurningTownLaw" (56 : Nat) ({ cls := "TurningTown", name := "swap", desc := "(II)I" } : Jvm.MethodName)) ∈ TT := tt_in (in_3 (List.mem_of_getElem? (i := 98) rfl)) rfl
theorem tw_1004 : (Jvm.Cond.methodLink "TurningTownLaw" (59 : Nat) ({ cls := "TurningTownModel", name := "swap", desc := "(II)I" } : Jvm.MethodName)) ∈ TT := tt_in (in_5 (List.mem_of_getElem? (i := 15) rfl)) rfl
theorem tw_1005 : (Jvm.Cond.methodLink "TurningTownLaw" (60 : Nat) ({ cls := "TurningTown", name := "where", desc := "(II)I" } : Jvm.MethodName)) ∈ TT := tt_in (in_3 (List.mem_of_getElem? (i := 110) rfl)) rfl
theorem tw_1006 : (Jvm.Cond.methodLink "TurningTownLaw" (63 : Nat) ({ cls := "TurningTownModel", name := "where", desc := "(II)I" } : Jvm.MethodName)) ∈ TT := tt_in (in_5 (List.mem_of_getElem? (i := 102) rfl)) rfl
theorem tw_1007 : (Jvm.Cond.methodLink "TurningTownLaw" (64 : Nat) ({ cls := "TurningTown", name := "when", desc := "(II)I" } : Jvm.MethodName)) ∈ TT := tt_in (in_3 (List.mem_of_getElem? (i := 115) rfl)) rfl
theorem tw_1008 : (Jvm.Cond.methodLink "TurningTownLaw" (67 : Nat) ({ cls := "TurningTownModel", name := "when", desc := "(II)I" } : Jvm.MethodName)) ∈ TT := tt_in (in_5 (List.mem_of_getElem? (i := 115) rfl)) rfl
theorem tw_1009 : (Jvm.Cond.methodLink "TurningTownLaw" (68 : Nat) ({ cls := "TurningTown", name := "neighbours", desc := "(II)I" } : Jvm.MethodName)) ∈ TT := tt_in (in_3 (List.mem_of_getElem? (i := 119) rfl)) rfl
theorem tw_1010 : (Jvm.Cond.methodLink "TurningTownLaw" (71 : Nat) ({ cls := "TurningTownModel", name := "neighbours", desc := "(II)I" } : Jvm.MethodName)) ∈ TT := tt_in (in_5 (List.mem_of_getElem? (i := 119) rfl)) rfl
theorem tw_1011 : (Jvm.Cond.methodLink "TurningTownLaw" (72 : Nat) ({ cls := "TurningTown", name := "again", desc := "()I" } : Jvm.MethodName)) ∈ TT := tt_in (in_3 (List.mem_of_getElem? (i := 129) rfl)) rfl
theorem tw_1012 : (Jvm.Cond.methodLink "TurningTownLaw" (75 : Nat) ({ cls := "TurningTownModel", name := "again", desc := "()I" } : Jvm.MethodName)) ∈ TT := tt_in (in_5 (List.mem_of_getElem? (i := 123) rfl)) rfl
theorem tw_1013 : (Jvm.Cond.methodLink "TurningTownLaw" (76 : Nat) ({ cls := "TurningTown", name := "post", desc := "(II)I" } : Jvm.MethodName)) ∈ TT := tt_in (in_3 (List.mem_of_getElem? (i := 137) rfl)) rfl
theorem tw_1014 : (Jvm.Cond.methodLink "TurningTownLaw" (79 : Nat) ({ cls := "TurningTownModel", name := "post", desc := "(II)I" } : Jvm.MethodName)) ∈ TT := tt_in (in_5 (List.mem_of_getElem? (i := 135) rfl)) rfl
theorem tw_1015 : (Jvm.Cond.methodLink "TurningTownLaw" (80 : Nat) ({ cls := "TurningTown", name := "will", desc := "(II)I" } : Jvm.MethodName)) ∈ TT := tt_in (in_3 (List.mem_of_getElem? (i := 142) rfl)) rfl
theorem tw_1016 : (Jvm.Cond.methodLink "TurningTownLaw" (83 : Nat) ({ cls := "TurningTownModel", name := "will", desc := "(II)I" } : Jvm.MethodName)) ∈ TT := tt_in (in_5 (List.mem_of_getElem? (i := 139) rfl)) rfl
theorem tw_1017 : (Jvm.Cond.methodLink "TurningTownLaw" (84 : Nat) ({ cls := "TurningTown", name := "rings", desc := "()I" } : Jvm.MethodName)) ∈ TT := tt_in (in_3 (List.mem_of_getElem? (i := 147) rfl)) rfl
theorem tw_1018 : (Jvm.Cond.methodLink "TurningTownLaw" (87 : Nat) ({ cls := "TurningTownModel", name := "rings", desc := "()I" } : Jvm.MethodName)) ∈ TT := tt_in (in_5 (List.mem_of_getElem? (i := 148) rfl)) rfl
theorem tw_1019 : (Jvm.Cond.methodLink "TurningTownLaw" (88 : Nat) ({ cls := "TurningTown", name := "wish", desc := "(III)I" } : Jvm.MethodName)) ∈ TT := tt_in (in_3 (List.mem_of_getElem? (i := 151) rfl)) rfl
theorem tw_1020 : (Jvm.Cond.methodLink "TurningTownLaw" (92 : Nat) ({ cls := "TurningTownModel", name := "wish", desc := "(III)I" } : Jvm.MethodName)) ∈ TT := tt_in (in_5 (List.mem_of_getElem? (i := 152) rfl)) rfl
theorem tw_1021 : (Jvm.Cond.methodLink "TurningTownLaw" (93 : Nat) ({ cls := "TurningTown", name := "give", desc := "()I" } : Jvm.MethodName)) ∈ TT := tt_in (in_3 (List.mem_of_getElem? (i := 162) rfl)) rfl
theorem tw_1022 : (Jvm.Cond.methodLink "TurningTownLaw" (96 : Nat) ({ cls := "TurningTownModel", name := "give", desc := "()I" } : Jvm.MethodName)) ∈ TT := tt_in (in_5 (List.mem_of_getElem? (i := 157) rfl)) rfl
theorem tw_1023 : (Jvm.Cond.methodLink "TurningTownLaw" (97 : Nat) ({ cls := "TurningTown", name := "order", desc := "(I)I" } : Jvm.MethodName)) ∈ TT := tt_in (in_3 (List.mem_of_getElem? (i := 167) rfl)) rfl
theorem tw_1024 : (Jvm.Cond.methodLink "TurningTownLaw" (100 : Nat) ({ cls := "TurningTownModel", name := "order", desc := "(I)I" } : Jvm.MethodName)) ∈ TT := tt_in (in_5 (List.mem_of_getElem? (i := 161) rfl)) rfl
theorem tw_1025 : (Jvm.Cond.methodLink "TurningTownLaw" (101 : Nat) ({ cls := "TurningTown", name := "see", desc := "(III)I" } : Jvm.MethodName)) ∈ TT := tt_in (in_3 (List.mem_of_getElem? (i := 197) rfl)) rfl
theorem tw_1026 : (Jvm.Cond.methodLink "TurningTownLaw" (104 : Nat) ({ cls := "TurningTownModel", name := "see", desc := "(III)I" } : Jvm.MethodName)) ∈ TT := tt_in (in_5 (List.mem_of_getElem? (i := 179) rfl)) rfl
theorem tw_1027 : (Jvm.Cond.methodLink "TurningTownLaw" (105 : Nat) ({ cls := "TurningTown", name := "forget", desc := "()I" } : Jvm.MethodName)) ∈ TT := tt_in (in_3 (List.mem_of_getElem? (i := 201) rfl)) rfl
theorem tw_1028 : (Jvm.Cond.methodLink "TurningTownLaw" (108 : Nat) ({ cls := "TurningTownModel", name := "forget", desc := "()I" } : Jvm.MethodName)) ∈ TT := tt_in (in_5 (List.mem_of_getElem? (i := 183) rfl)) rfl
theorem tw_1029 : (Jvm.Cond.methodLink "TurningTownLaw" (109 : Nat) ({ cls := "TurningTown", name := "years", desc := "(III)I" } : Jvm.MethodName)) ∈ TT := tt_in (in_3 (List.mem_of_getElem? (i := 205) rfl)) rfl
theorem tw_1030 : (Jvm.Cond.methodLink "TurningTownLaw" (112 : Nat) ({ cls := "TurningTownModel", name := "years", desc := "(III)I" } : Jvm.MethodName)) ∈ TT := tt_in (in_5 (List.mem_of_getElem? (i := 187) rfl)) rfl
theorem tw_1031 : (Jvm.Cond.methodLink "TurningTownLaw" (113 : Nat) ({ cls := "TurningTown", name := "image", desc := "()I" } : Jvm.MethodName)) ∈ TT := tt_in (in_3 (List.mem_of_getElem? (i := 224) rfl)) rfl
theorem tw_1032 : (Jvm.Cond.methodLink "TurningTownLaw" (116 : Nat) ({ cls := "TurningTownModel", name := "image", desc := "()I" } : Jvm.MethodName)) ∈ TT := tt_in (in_5 (List.mem_of_getElem? (i := 204) rfl)) rfl
theorem tw_1033 : (Jvm.Cond.methodLink "TurningTownLaw" (117 : Nat) ({ cls := "TurningTown", name := "restore", desc := "()I" } : Jvm.MethodName)) ∈ TT := tt_in (in_4 (List.mem_of_getElem? (i := 0) rfl)) rfl
theorem tw_1034 : (Jvm.Cond.methodLink "TurningTownLaw" (120 : Nat) ({ cls := "TurningTownModel", name := "restore", desc := "()I" } : Jvm.MethodName)) ∈ TT := tt_in (in_5 (List.mem_of_getElem? (i := 208) rfl)) rfl
theorem tw_1035 : (Jvm.Cond.methodLink "TurningTownLaw" (121 : Nat) ({ cls := "TurningTown", name := "count", desc := "(I)I" } : Jvm.MethodName)) ∈ TT := tt_in (in_4 (List.mem_of_getElem? (i := 4) rfl)) rfl
theorem tw_1036 : (Jvm.Cond.methodLink "TurningTownLaw" (124 : Nat) ({ cls := "TurningTownModel", name := "count", desc := "(I)I" } : Jvm.MethodName)) ∈ TT := tt_in (in_5 (List.mem_of_getElem? (i := 212) rfl)) rfl
theorem tw_1037 : (Jvm.Cond.methodLink "TurningTownLaw" (125 : Nat) ({ cls := "TurningTown", name := "digest", desc := "()J" } : Jvm.MethodName)) ∈ TT := tt_in (in_4 (List.mem_of_getElem? (i := 16) rfl)) rfl
theorem tw_1038 : (Jvm.Cond.methodLink "TurningTownLaw" (129 : Nat) ({ cls := "TurningTownModel", name := "digest", desc := "()J" } : Jvm.MethodName)) ∈ TT := tt_in (in_5 (List.mem_of_getElem? (i := 232) rfl)) rfl
theorem tw_1039 : (Jvm.Cond.instantiable "TurningTown" (11 : Nat)) ∈ TT := tt_in (in_1 (List.mem_of_getElem? (i := 19) rfl)) rfl
theorem tw_1040 : (Jvm.Cond.instantiable "TurningTownModel" (43 : Nat)) ∈ TT := tt_in (in_4 (List.mem_of_getElem? (i := 34) rfl)) rfl
theorem tw_1041 : (Jvm.Cond.classLink "TurningTownLaw" (7 : Nat) "TurningTown") ∈ TT := tt_in (in_1 (List.mem_of_getElem? (i := 18) rfl)) rfl
theorem tw_1042 : (Jvm.Cond.methodLink "TurningTownLaw" (9 : Nat) ({ cls := "TurningTown", name := "<init>", desc := "()V" } : Jvm.MethodName)) ∈ TT := tt_in (in_1 (List.mem_of_getElem? (i := 20) rfl)) rfl
theorem tw_1043 : (Jvm.Cond.classLink "TurningTownLaw" (10 : Nat) "TurningTownModel") ∈ TT := tt_in (in_4 (List.mem_of_getElem? (i := 33) rfl)) rfl
theorem tw_1044 : (Jvm.Cond.methodLink "TurningTownLaw" (12 : Nat) ({ cls := "TurningTownModel", name := "<init>", desc := "()V" } : Jvm.MethodName)) ∈ TT := tt_in (in_4 (List.mem_of_getElem? (i := 35) rfl)) rfl
theorem iX0 : ∀ w ∈ u_ws RX0 TX0 3, w ∈ TT := List.forall_mem_cons.mpr ⟨tw_0, List.forall_mem_cons.mpr ⟨tw_1, List.forall_mem_cons.mpr ⟨tw_2, fun _ h => absurd h List.not_mem_nil⟩⟩⟩
theorem iX1 : ∀ w ∈ u_ws RX1 TX1 2, w ∈ TT := List.forall_mem_cons.mpr ⟨tw_3, List.forall_mem_cons.mpr ⟨tw_4, fun _ h => absurd h List.not_mem_nil⟩⟩
theorem iX2 : ∀ w ∈ u_ws RX2 TX2 4, w ∈ TT := List.forall_mem_cons.mpr ⟨tw_5, List.forall_mem_cons.mpr ⟨tw_6, List.forall_mem_cons.mpr ⟨tw_7, List.forall_mem_cons.mpr ⟨tw_8, fun _ h => absurd h List.not_mem_nil⟩⟩⟩⟩
theorem iX3 : ∀ w ∈ u_ws RX3 TX3 2, w ∈ TT := List.forall_mem_cons.mpr ⟨tw_9, List.forall_mem_cons.mpr ⟨tw_10, fun _ h => absurd h List.not_mem_nil⟩⟩
theorem iX4 : ∀ w ∈ u_ws RX4 TX4 4, w ∈ TT := List.forall_mem_cons.mpr ⟨tw_11, List.forall_mem_cons.mpr ⟨tw_12, List.forall_mem_cons.mpr ⟨tw_13, List.forall_mem_cons.mpr ⟨tw_14, fun _ h => absurd h List.not_mem_nil⟩⟩⟩⟩
theorem iX5 : ∀ w ∈ u_ws RX5 TX5 5, w ∈ TT := List.forall_mem_cons.mpr ⟨tw_15, List.forall_mem_cons.mpr ⟨tw_16, List.forall_mem_cons.mpr ⟨tw_17, List.forall_mem_cons.mpr ⟨tw_18, List.forall_mem_cons.mpr ⟨tw_19, fun _ h => absurd h List.not_mem_nil⟩⟩⟩⟩⟩
theorem iX6 : ∀ w ∈ u_ws RX6 TX6 7, w ∈ TT := List.forall_mem_cons.mpr ⟨tw_20, List.forall_mem_cons.mpr ⟨tw_21, List.forall_mem_cons.mpr ⟨tw_22, List.forall_mem_cons.mpr ⟨tw_23, List.forall_mem_cons.mpr ⟨tw_24, List.forall_mem_cons.mpr ⟨tw_25, List.forall_mem_cons.mpr ⟨tw_26, fun _ h => absurd h List.not_mem_nil⟩⟩⟩⟩⟩⟩⟩
theorem iX7 : ∀ w ∈ u_ws RX7 TX7 4, w ∈ TT := List.forall_mem_cons.mpr ⟨tw_27, List.forall_mem_cons.mpr ⟨tw_28, List.forall_mem_cons.mpr ⟨tw_29, List.forall_mem_cons.mpr ⟨tw_30, fun _ h => absurd h List.not_mem_nil⟩⟩⟩⟩
theorem iX8 : ∀ w ∈ u_ws RX8 TX8 11, w ∈ TT := List.forall_mem_cons.mpr ⟨tw_31, List.forall_mem_cons.mpr ⟨tw_32, List.forall_mem_cons.mpr ⟨tw_33, List.forall_mem_cons.mpr ⟨tw_34, List.forall_mem_cons.mpr ⟨tw_35, List.forall_mem_cons.mpr ⟨tw_36, List.forall_mem_cons.mpr ⟨tw_37, List.forall_mem_cons.mpr ⟨tw_38, List.forall_mem_cons.mpr ⟨tw_39, List.forall_mem_cons.mpr ⟨tw_40, List.forall_mem_cons.mpr ⟨tw_41, fun _ h => absurd h List.not_mem_nil⟩⟩⟩⟩⟩⟩⟩⟩⟩⟩⟩
theorem iX9 : ∀ w ∈ u_ws RX9 TX9 43, w ∈ TT := List.forall_mem_cons.mpr ⟨tw_42, List.forall_mem_cons.mpr ⟨tw_43, List.forall_mem_cons.mpr ⟨tw_44, List.forall_mem_cons.mpr ⟨tw_45, List.forall_mem_cons.mpr ⟨tw_46, List.forall_mem_cons.mpr ⟨tw_47, List.forall_mem_cons.mpr ⟨tw_48, List.forall_mem_cons.mpr ⟨tw_49, List.forall_mem_cons.mpr ⟨tw_50, List.forall_mem_cons.mpr ⟨tw_51, List.forall_mem_cons.mpr ⟨tw_52, List.forall_mem_cons.mpr ⟨tw_53, List.forall_mem_cons.mpr ⟨tw_54, List.forall_mem_cons.mpr ⟨tw_55, List.forall_mem_cons.mpr ⟨tw_56, List.forall_mem_cons.mpr ⟨tw_57, List.forall_mem_cons.mpr ⟨tw_58, List.forall_mem_cons.mpr ⟨tw_59, List.forall_mem_cons.mpr ⟨tw_60, List.forall_mem_cons.mpr ⟨tw_61, List.forall_mem_cons.mpr ⟨tw_62, List.forall_mem_cons.mpr ⟨tw_63, List.forall_mem_cons.mpr ⟨tw_64, List.forall_mem_cons.mpr ⟨tw_65, List.forall_mem_cons.mpr ⟨tw_66, List.forall_mem_cons.mpr ⟨tw_67, List.forall_mem_cons.mpr ⟨tw_68, List.forall_mem_cons.mpr ⟨tw_69, List.forall_mem_cons.mpr ⟨tw_70, List.forall_mem_cons.mpr ⟨tw_71, List.forall_mem_cons.mpr ⟨tw_72, List.forall_mem_cons.mpr ⟨tw_73, List.forall_mem_cons.mpr ⟨tw_74, List.forall_mem_cons.mpr ⟨tw_75, List.forall_mem_cons.mpr ⟨tw_76, List.forall_mem_cons.mpr ⟨tw_77, List.forall_mem_cons.mpr ⟨tw_78, List.forall_mem_cons.mpr ⟨tw_79, List.forall_mem_cons.mpr ⟨tw_80, List.forall_mem_cons.mpr ⟨tw_81, List.forall_mem_cons.mpr ⟨tw_82, List.forall_mem_cons.mpr ⟨tw_83, List.forall_mem_cons.mpr ⟨tw_84, fun _ h => absurd h List.not_mem_nil⟩⟩⟩⟩⟩⟩⟩⟩⟩⟩⟩⟩⟩⟩⟩⟩⟩⟩⟩⟩⟩⟩⟩⟩⟩⟩⟩⟩⟩⟩⟩⟩⟩⟩⟩⟩⟩⟩⟩⟩⟩⟩⟩
theorem mX3_houses : MV yX3_houses RX3 cX3_houses 1 (some .int) 0 := ⟨tw_90, tw_91, tw_92, tw_93, by decide +kernel⟩
theorem mX3_worthWritten : MV yX3_worthWritten RX3 cX3_worthWritten 2 (some .int) 1 := ⟨tw_95, tw_96, tw_97, tw_93, by decide +kernel⟩
theorem mX3_likeWritten : MV yX3_likeWritten RX3 cX3_likeWritten 2 (some .int) 1 := ⟨tw_98, tw_99, tw_100, tw_93, by decide +kernel⟩
theorem mX0_readFrom : MV yX0_readFrom RX0 cX0_readFrom 3 none 1 := ⟨tw_107, tw_108, tw_109, tw_110, by decide +kernel⟩
theorem mX0_likersOf : MV yX0_likersOf RX0 cX0_likersOf 4 (some .int) 1 := ⟨tw_111, tw_112, tw_113, tw_110, by decide +kernel⟩
theorem mX6_isDown : MV yX6_isDown RX6 cX6_isDown 2 (some .boolean) 1 := ⟨tw_115, tw_116, tw_117, tw_118, by decide +kernel⟩
theorem mX0_worthUnder : MV yX0_worthUnder RX0 cX0_worthUnder 3 (some .int) 2 := ⟨tw_121, tw_122, tw_123, tw_110, by decide +kernel⟩
theorem mX0_worthUnderAll : MV yX0_worthUnderAll RX0 cX0_worthUnderAll 4 (some .int) 1 := ⟨tw_125, tw_126, tw_127, tw_110, by decide +kernel⟩
theorem mX2_lastNight : MV yX2_lastNight RX2 cX2_lastNight 3 (some .int) 0 := ⟨tw_133, tw_134, tw_135, tw_136, by decide +kernel⟩
theorem mX6_copyFrom : MV yX6_copyFrom RX6 cX6_copyFrom 2 none 1 := ⟨tw_147, tw_148, tw_149, tw_118, by decide +kernel⟩
theorem mX6_nightsFor : MS yX6_nightsFor cX6_nightsFor 1 (some .int) 1 := ⟨tw_150, tw_151, tw_118, by decide +kernel⟩
theorem mX6_leavePlot : MV yX6_leavePlot RX6 cX6_leavePlot 3 none 1 := ⟨tw_152, tw_153, tw_154, tw_118, by decide +kernel⟩
theorem mX6_takeDown : MV yX6_takeDown RX6 cX6_takeDown 2 none 1 := ⟨tw_157, tw_158, tw_159, tw_118, by decide +kernel⟩
theorem mX6_freeBeyond : MV yX6_freeBeyond RX6 cX6_freeBeyond 4 (some .int) 1 := ⟨tw_160, tw_161, tw_162, tw_118, by decide +kernel⟩
theorem mX6_moveFirst : MV yX6_moveFirst RX6 cX6_moveFirst 4 none 0 := ⟨tw_164, tw_165, tw_166, tw_118, by decide +kernel⟩
theorem mX6_turn : MV yX6_turn RX6 cX6_turn 2 (some .int) 0 := ⟨tw_169, tw_170, tw_171, tw_118, by decide +kernel⟩
theorem mX1_follow : MV yX1_follow RX1 cX1_follow 7 none 3 := ⟨tw_179, tw_180, tw_181, tw_182, by decide +kernel⟩
theorem mX1_agrees : MV yX1_agrees RX1 cX1_agrees 5 (some .boolean) 3 := ⟨tw_187, tw_188, tw_189, tw_182, by decide +kernel⟩
theorem mX1_kindsByTracks : MV yX1_kindsByTracks RX1 cX1_kindsByTracks 5 (some .int) 2 := ⟨tw_191, tw_192, tw_193, tw_182, by decide +kernel⟩
theorem mX1_kindsOf : MV yX1_kindsOf RX1 cX1_kindsOf 3 (some .int) 2 := ⟨tw_199, tw_200, tw_201, tw_182, by decide +kernel⟩
theorem mX1_has : MS yX1_has cX1_has 2 (some .boolean) 2 := ⟨tw_202, tw_203, tw_182, by decide +kernel⟩
theorem mX1_seenAlike : MV yX1_seenAlike RX1 cX1_seenAlike 6 (some .int) 3 := ⟨tw_205, tw_206, tw_207, tw_182, by decide +kernel⟩
theorem mX1_leftAtWorst : MV yX1_leftAtWorst RX1 cX1_leftAtWorst 5 (some .int) 2 := ⟨tw_210, tw_211, tw_212, tw_182, by decide +kernel⟩
theorem mX1_nightToLook : MV yX1_nightToLook RX1 cX1_nightToLook 8 (some .int) 2 := ⟨tw_214, tw_215, tw_216, tw_182, by decide +kernel⟩
theorem mX2_add : MV yX2_add RX2 cX2_add 4 (some .int) 3 := ⟨tw_219, tw_220, tw_221, tw_136, by decide +kernel⟩
theorem mX2_clear : MV yX2_clear RX2 cX2_clear 2 (some .int) 0 := ⟨tw_222, tw_223, tw_224, tw_136, by decide +kernel⟩
theorem mX2_copyFrom : MV yX2_copyFrom RX2 cX2_copyFrom 2 none 1 := ⟨tw_227, tw_228, tw_229, tw_136, by decide +kernel⟩
theorem mX2_trueBehind : MV yX2_trueBehind RX2 cX2_trueBehind 5 (some .int) 2 := ⟨tw_231, tw_232, tw_233, tw_136, by decide +kernel⟩
theorem mX3_write : MV yX3_write RX3 cX3_write 2 none 1 := ⟨tw_234, tw_235, tw_236, tw_93, by decide +kernel⟩
theorem mJ0_isLatin1_aae02 : MV yJ0_isLatin1_aae02 RJ0 cJ0_isLatin1_aae02 1 (some .boolean) 0 := ⟨tw_239, tw_240, tw_241, tw_242, by decide +kernel⟩
theorem mJ0_coder_7d493 : MV yJ0_coder_7d493 RJ0 cJ0_coder_7d493 1 (some .byte) 0 := ⟨tw_243, tw_244, tw_245, tw_242, by decide +kernel⟩
theorem mJ0_length_8abf5 : MV yJ0_length_8abf5 RJ0 cJ0_length_8abf5 1 (some .int) 0 := ⟨tw_248, tw_249, tw_250, tw_242, by decide +kernel⟩
theorem mJ1_canEncode_9a6ad : MS yJ1_canEncode_9a6ad cJ1_canEncode_9a6ad 1 (some .boolean) 1 := ⟨tw_251, tw_252, tw_253, by decide +kernel⟩
theorem mJ1_indexOfChar_4cfef : MS yJ1_indexOfChar_4cfef cJ1_indexOfChar_4cfef 6 (some .int) 4 := ⟨tw_254, tw_255, tw_253, by decide +kernel⟩
theorem mJ1_indexOf_4cfef : MS yJ1_indexOf_4cfef cJ1_indexOf_4cfef 4 (some .int) 4 := ⟨tw_260, tw_261, tw_253, by decide +kernel⟩
theorem mJ0_indexOf_7cf53 : MV yJ0_indexOf_7cf53 RJ0 cJ0_indexOf_7cf53 3 (some .int) 2 := ⟨tw_265, tw_266, tw_267, tw_242, by decide +kernel⟩
theorem mJ0_indexOf_0f7a4 : MV yJ0_indexOf_0f7a4 RJ0 cJ0_indexOf_0f7a4 2 (some .int) 1 := ⟨tw_269, tw_270, tw_271, tw_242, by decide +kernel⟩
theorem mX3_kindBy : MS yX3_kindBy cX3_kindBy 1 (some .int) 1 := ⟨tw_273, tw_274, tw_93, by decide +kernel⟩
theorem mX3_fits : MS yX3_fits cX3_fits 2 (some .boolean) 2 := ⟨tw_276, tw_277, tw_93, by decide +kernel⟩
theorem mX3_firstWrong : MV yX3_firstWrong RX3 cX3_firstWrong 2 (some .int) 0 := ⟨tw_279, tw_280, tw_281, tw_93, by decide +kernel⟩
theorem mX3_isSquare : MV yX3_isSquare RX3 cX3_isSquare 2 (some .boolean) 0 := ⟨tw_283, tw_284, tw_285, tw_93, by decide +kernel⟩
theorem mX3_kindWritten : MV yX3_kindWritten RX3 cX3_kindWritten 2 (some .int) 1 := ⟨tw_286, tw_287, tw_288, tw_93, by decide +kernel⟩
theorem mX6_beginWith : MV yX6_beginWith RX6 cX6_beginWith 5 none 2 := ⟨tw_290, tw_291, tw_292, tw_118, by decide +kernel⟩
theorem mX4_grantedBy : MV yX4_grantedBy RX4 cX4_grantedBy 6 (some .int) 2 := ⟨tw_299, tw_300, tw_301, tw_302, by decide +kernel⟩
theorem mX4_exchange : MV yX4_exchange RX4 cX4_exchange 4 none 2 := ⟨tw_303, tw_304, tw_305, tw_302, by decide +kernel⟩
theorem mX4_goToNextTrial : MV yX4_goToNextTrial RX4 cX4_goToNextTrial 6 (some .boolean) 1 := ⟨tw_307, tw_308, tw_309, tw_302, by decide +kernel⟩
theorem mX4_make : MV yX4_make RX4 cX4_make 5 none 2 := ⟨tw_318, tw_319, tw_320, tw_302, by decide +kernel⟩
theorem mX5_beginFrom : MV yX5_beginFrom RX5 cX5_beginFrom 4 none 1 := ⟨tw_331, tw_332, tw_333, tw_334, by decide +kernel⟩
theorem mX5_copyFrom : MV yX5_copyFrom RX5 cX5_copyFrom 2 none 1 := ⟨tw_338, tw_339, tw_340, tw_334, by decide +kernel⟩
theorem mX5_endNight : MV yX5_endNight RX5 cX5_endNight 3 none 1 := ⟨tw_343, tw_344, tw_345, tw_334, by decide +kernel⟩
theorem mX5_hadByAll : MV yX5_hadByAll RX5 cX5_hadByAll 3 (some .int) 0 := ⟨tw_346, tw_347, tw_348, tw_334, by decide +kernel⟩
theorem mX6_exchange : MV yX6_exchange RX6 cX6_exchange 4 none 2 := ⟨tw_349, tw_350, tw_351, tw_118, by decide +kernel⟩
theorem mX8_wayRound : MS yX8_wayRound cX8_wayRound 3 (some .int) 2 := ⟨tw_356, tw_357, tw_358, by decide +kernel⟩
theorem mX6_areBeside : MV yX6_areBeside RX6 cX6_areBeside 3 (some .boolean) 2 := ⟨tw_360, tw_361, tw_362, tw_118, by decide +kernel⟩
theorem mX6_placeInRow : MV yX6_placeInRow RX6 cX6_placeInRow 3 (some .int) 1 := ⟨tw_363, tw_364, tw_365, tw_118, by decide +kernel⟩
theorem mX6_standing : MV yX6_standing RX6 cX6_standing 3 (some .int) 0 := ⟨tw_366, tw_367, tw_368, tw_118, by decide +kernel⟩
theorem mX6_standsLike : MV yX6_standsLike RX6 cX6_standsLike 3 (some .boolean) 1 := ⟨tw_369, tw_370, tw_371, tw_118, by decide +kernel⟩
theorem mX7_firstLeft : MV yX7_firstLeft RX7 cX7_firstLeft 3 (some .int) 1 := ⟨tw_373, tw_374, tw_375, tw_376, by decide +kernel⟩
theorem mX7_nearestOwner : MV yX7_nearestOwner RX7 cX7_nearestOwner 8 (some .int) 3 := ⟨tw_378, tw_379, tw_380, tw_376, by decide +kernel⟩
theorem mX7_pointAll : MV yX7_pointAll RX7 cX7_pointAll 4 none 2 := ⟨tw_385, tw_386, tw_387, tw_376, by decide +kernel⟩
theorem mX7_onRing : MV yX7_onRing RX7 cX7_onRing 5 (some .int) 2 := ⟨tw_388, tw_389, tw_390, tw_376, by decide +kernel⟩
theorem mX7_closeRing : MV yX7_closeRing RX7 cX7_closeRing 6 none 2 := ⟨tw_394, tw_395, tw_396, tw_376, by decide +kernel⟩
theorem mX7_close : MV yX7_close RX7 cX7_close 5 none 2 := ⟨tw_402, tw_403, tw_404, tw_376, by decide +kernel⟩
theorem mX8_letter : MV yX8_letter RX8 cX8_letter 2 (some .int) 1 := ⟨tw_408, tw_409, tw_410, tw_358, by decide +kernel⟩
theorem mX8_blank : MV yX8_blank RX8 cX8_blank 2 (some .int) 0 := ⟨tw_411, tw_412, tw_413, tw_358, by decide +kernel⟩
theorem mX8_fault : MV yX8_fault RX8 cX8_fault 1 (some .int) 0 := ⟨tw_415, tw_416, tw_417, tw_358, by decide +kernel⟩
theorem mX8_square : MV yX8_square RX8 cX8_square 1 (some .int) 0 := ⟨tw_426, tw_427, tw_428, tw_358, by decide +kernel⟩
theorem mX8_isHouse : MV yX8_isHouse RX8 cX8_isHouse 2 (some .boolean) 1 := ⟨tw_429, tw_430, tw_431, tw_358, by decide +kernel⟩
theorem mX8_house : MV yX8_house RX8 cX8_house 3 (some .int) 2 := ⟨tw_445, tw_446, tw_447, tw_358, by decide +kernel⟩
theorem mX8_isKind : MS yX8_isKind cX8_isKind 1 (some .boolean) 1 := ⟨tw_448, tw_449, tw_358, by decide +kernel⟩
theorem mX8_as : MV yX8_as RX8 cX8_as 5 (some .int) 2 := ⟨tw_451, tw_452, tw_453, tw_358, by decide +kernel⟩
theorem mX8_hasSquare : MV yX8_hasSquare RX8 cX8_hasSquare 1 (some .boolean) 0 := ⟨tw_454, tw_455, tw_456, tw_358, by decide +kernel⟩
theorem mX8_isPlot : MS yX8_isPlot cX8_isPlot 1 (some .boolean) 1 := ⟨tw_457, tw_458, tw_358, by decide +kernel⟩
theorem mX8_plot : MV yX8_plot RX8 cX8_plot 3 (some .int) 2 := ⟨tw_464, tw_465, tw_466, tw_358, by decide +kernel⟩
theorem mX8_night : MV yX8_night RX8 cX8_night 2 (some .int) 0 := ⟨tw_470, tw_471, tw_472, tw_358, by decide +kernel⟩
theorem mX8_snow : MV yX8_snow RX8 cX8_snow 1 (some .int) 0 := ⟨tw_473, tw_474, tw_475, tw_358, by decide +kernel⟩
theorem mX8_build : MV yX8_build RX8 cX8_build 4 (some .int) 2 := ⟨tw_477, tw_478, tw_479, tw_358, by decide +kernel⟩
theorem mX8_areTwoHouses : MV yX8_areTwoHouses RX8 cX8_areTwoHouses 3 (some .boolean) 2 := ⟨tw_480, tw_481, tw_482, tw_358, by decide +kernel⟩
theorem mX8_swap : MV yX8_swap RX8 cX8_swap 3 (some .int) 2 := ⟨tw_485, tw_486, tw_487, tw_358, by decide +kernel⟩
theorem mX8_where : MV yX8_where RX8 cX8_where 4 (some .int) 2 := ⟨tw_490, tw_491, tw_492, tw_358, by decide +kernel⟩
theorem mX8_when : MV yX8_when RX8 cX8_when 4 (some .int) 2 := ⟨tw_493, tw_494, tw_495, tw_358, by decide +kernel⟩
theorem mX8_neighbours : MV yX8_neighbours RX8 cX8_neighbours 4 (some .int) 2 := ⟨tw_497, tw_498, tw_499, tw_358, by decide +kernel⟩
theorem mX8_again : MV yX8_again RX8 cX8_again 2 (some .int) 0 := ⟨tw_501, tw_502, tw_503, tw_358, by decide +kernel⟩
theorem mX8_post : MV yX8_post RX8 cX8_post 4 (some .int) 2 := ⟨tw_505, tw_506, tw_507, tw_358, by decide +kernel⟩
theorem mX8_will : MV yX8_will RX8 cX8_will 5 (some .int) 2 := ⟨tw_509, tw_510, tw_511, tw_358, by decide +kernel⟩
theorem mX8_rings : MV yX8_rings RX8 cX8_rings 1 (some .int) 0 := ⟨tw_513, tw_514, tw_515, tw_358, by decide +kernel⟩
theorem mX8_isNoteNight : MS yX8_isNoteNight cX8_isNoteNight 1 (some .boolean) 1 := ⟨tw_516, tw_517, tw_358, by decide +kernel⟩
theorem mX8_wish : MV yX8_wish RX8 cX8_wish 4 (some .int) 3 := ⟨tw_521, tw_522, tw_523, tw_358, by decide +kernel⟩
theorem mX8_give : MV yX8_give RX8 cX8_give 1 (some .int) 0 := ⟨tw_525, tw_526, tw_527, tw_358, by decide +kernel⟩
theorem mX8_order : MV yX8_order RX8 cX8_order 4 (some .int) 1 := ⟨tw_533, tw_534, tw_535, tw_358, by decide +kernel⟩
theorem mX8_see : MV yX8_see RX8 cX8_see 4 (some .int) 3 := ⟨tw_537, tw_538, tw_539, tw_358, by decide +kernel⟩
theorem mX8_forget : MV yX8_forget RX8 cX8_forget 1 (some .int) 0 := ⟨tw_540, tw_541, tw_542, tw_358, by decide +kernel⟩
theorem mX8_seedBehind : MS yX8_seedBehind cX8_seedBehind 1 (some .int) 1 := ⟨tw_546, tw_547, tw_358, by decide +kernel⟩
theorem mX8_snowsBy : MS yX8_snowsBy cX8_snowsBy 1 (some .boolean) 1 := ⟨tw_549, tw_550, tw_358, by decide +kernel⟩
theorem mX8_years : MV yX8_years RX8 cX8_years 8 (some .int) 3 := ⟨tw_554, tw_555, tw_556, tw_358, by decide +kernel⟩
theorem mX8_image : MV yX8_image RX8 cX8_image 1 (some .int) 0 := ⟨tw_559, tw_560, tw_561, tw_358, by decide +kernel⟩
theorem mX8_restore : MV yX8_restore RX8 cX8_restore 1 (some .int) 0 := ⟨tw_562, tw_563, tw_564, tw_358, by decide +kernel⟩
theorem mX8_count : MV yX8_count RX8 cX8_count 2 (some .int) 1 := ⟨tw_571, tw_572, tw_573, tw_358, by decide +kernel⟩
theorem mX8_withPlots : MV yX8_withPlots RX8 cX8_withPlots 7 (some .long) 1 := ⟨tw_576, tw_577, tw_578, tw_358, by decide +kernel⟩
theorem mX8_digest : MV yX8_digest RX8 cX8_digest 5 (some .long) 0 := ⟨tw_588, tw_589, tw_590, tw_358, by decide +kernel⟩
theorem mX9_in : MS yX9_in cX9_in 6 (some .boolean) 3 := ⟨tw_591, tw_592, tw_593, by decide +kernel⟩
theorem mX9_copy : MS yX9_copy cX9_copy 3 none 2 := ⟨tw_594, tw_595, tw_593, by decide +kernel⟩
theorem mX9_round : MS yX9_round cX9_round 3 (some .int) 2 := ⟨tw_596, tw_597, tw_593, by decide +kernel⟩
theorem mX9_letter : MV yX9_letter RX9 cX9_letter 2 (some .int) 1 := ⟨tw_602, tw_603, tw_604, tw_593, by decide +kernel⟩
theorem mX9_blank : MV yX9_blank RX9 cX9_blank 2 (some .int) 0 := ⟨tw_605, tw_606, tw_607, tw_593, by decide +kernel⟩
theorem mX9_kindBy : MS yX9_kindBy cX9_kindBy 1 (some .int) 1 := ⟨tw_608, tw_609, tw_593, by decide +kernel⟩
theorem mX9_isGood : MS yX9_isGood cX9_isGood 2 (some .boolean) 2 := ⟨tw_615, tw_616, tw_593, by decide +kernel⟩
theorem mX9_faultOf : MV yX9_faultOf RX9 cX9_faultOf 2 (some .int) 0 := ⟨tw_618, tw_619, tw_620, tw_593, by decide +kernel⟩
theorem mX9_fault : MV yX9_fault RX9 cX9_fault 1 (some .int) 0 := ⟨tw_622, tw_623, tw_624, tw_593, by decide +kernel⟩
theorem mX9_square : MV yX9_square RX9 cX9_square 2 (some .int) 0 := ⟨tw_638, tw_639, tw_640, tw_593, by decide +kernel⟩
theorem mX9_lacks : MV yX9_lacks RX9 cX9_lacks 1 (some .boolean) 0 := ⟨tw_641, tw_642, tw_643, tw_593, by decide +kernel⟩
theorem mX9_isHouse : MV yX9_isHouse RX9 cX9_isHouse 2 (some .boolean) 1 := ⟨tw_644, tw_645, tw_646, tw_593, by decide +kernel⟩
theorem mX9_areTwo : MV yX9_areTwo RX9 cX9_areTwo 3 (some .boolean) 2 := ⟨tw_648, tw_649, tw_650, tw_593, by decide +kernel⟩
theorem mX9_isPlot : MS yX9_isPlot cX9_isPlot 1 (some .boolean) 1 := ⟨tw_652, tw_653, tw_593, by decide +kernel⟩
theorem mX9_begin : MV yX9_begin RX9 cX9_begin 1 none 0 := ⟨tw_659, tw_660, tw_661, tw_593, by decide +kernel⟩
theorem mX9_takeThen : MV yX9_takeThen RX9 cX9_takeThen 1 none 0 := ⟨tw_662, tw_663, tw_664, tw_593, by decide +kernel⟩
theorem mX9_onThen : MV yX9_onThen RX9 cX9_onThen 3 (some .int) 1 := ⟨tw_665, tw_666, tw_667, tw_593, by decide +kernel⟩
theorem mX9_putUp : MV yX9_putUp RX9 cX9_putUp 5 none 0 := ⟨tw_669, tw_670, tw_671, tw_593, by decide +kernel⟩
theorem mX9_goOn : MV yX9_goOn RX9 cX9_goOn 2 (some .int) 0 := ⟨tw_673, tw_674, tw_675, tw_593, by decide +kernel⟩
theorem mX9_worthOf : MV yX9_worthOf RX9 cX9_worthOf 2 (some .int) 1 := ⟨tw_676, tw_677, tw_678, tw_593, by decide +kernel⟩
theorem mX9_have : MV yX9_have RX9 cX9_have 2 none 0 := ⟨tw_680, tw_681, tw_682, tw_593, by decide +kernel⟩
theorem mX9_night : MV yX9_night RX9 cX9_night 2 (some .int) 0 := ⟨tw_688, tw_689, tw_690, tw_593, by decide +kernel⟩
theorem mX9_snow : MV yX9_snow RX9 cX9_snow 1 (some .int) 0 := ⟨tw_691, tw_692, tw_693, tw_593, by decide +kernel⟩
theorem mX9_build : MV yX9_build RX9 cX9_build 4 (some .int) 2 := ⟨tw_695, tw_696, tw_697, tw_593, by decide +kernel⟩
theorem mX9_swap : MV yX9_swap RX9 cX9_swap 4 (some .int) 2 := ⟨tw_699, tw_700, tw_701, tw_593, by decide +kernel⟩
theorem mX9_placeOf : MV yX9_placeOf RX9 cX9_placeOf 3 (some .int) 1 := ⟨tw_702, tw_703, tw_704, tw_593, by decide +kernel⟩
theorem mX9_isLeft : MV yX9_isLeft RX9 cX9_isLeft 2 (some .boolean) 1 := ⟨tw_706, tw_707, tw_708, tw_593, by decide +kernel⟩
theorem mX9_leftMany : MV yX9_leftMany RX9 cX9_leftMany 3 (some .int) 0 := ⟨tw_710, tw_711, tw_712, tw_593, by decide +kernel⟩
theorem mX9_pointsTo : MV yX9_pointsTo RX9 cX9_pointsTo 5 (some .int) 1 := ⟨tw_714, tw_715, tw_716, tw_593, by decide +kernel⟩
theorem mX9_ringOf : MV yX9_ringOf RX9 cX9_ringOf 4 (some .int) 1 := ⟨tw_718, tw_719, tw_720, tw_593, by decide +kernel⟩
theorem mX9_isLeastOn : MV yX9_isLeastOn RX9 cX9_isLeastOn 4 (some .boolean) 1 := ⟨tw_721, tw_722, tw_723, tw_593, by decide +kernel⟩
theorem mX9_trade : MV yX9_trade RX9 cX9_trade 2 none 0 := ⟨tw_730, tw_731, tw_732, tw_593, by decide +kernel⟩
theorem mX9_layWays : MV yX9_layWays RX9 cX9_layWays 5 none 1 := ⟨tw_734, tw_735, tw_736, tw_593, by decide +kernel⟩
theorem mX9_kindsLaid : MV yX9_kindsLaid RX9 cX9_kindsLaid 6 (some .int) 1 := ⟨tw_738, tw_739, tw_740, tw_593, by decide +kernel⟩
theorem mX9_lookOf : MV yX9_lookOf RX9 cX9_lookOf 10 (some .int) 1 := ⟨tw_743, tw_744, tw_745, tw_593, by decide +kernel⟩
theorem mX9_kindsOf : MV yX9_kindsOf RX9 cX9_kindsOf 2 (some .int) 1 := ⟨tw_746, tw_747, tw_748, tw_593, by decide +kernel⟩
theorem mX9_tellHouse : MV yX9_tellHouse RX9 cX9_tellHouse 3 (some .int) 2 := ⟨tw_753, tw_754, tw_755, tw_593, by decide +kernel⟩
theorem mX9_house : MV yX9_house RX9 cX9_house 3 (some .int) 2 := ⟨tw_757, tw_758, tw_759, tw_593, by decide +kernel⟩
theorem mX9_as : MV yX9_as RX9 cX9_as 4 (some .int) 2 := ⟨tw_760, tw_761, tw_762, tw_593, by decide +kernel⟩
theorem mX9_standsOn : MV yX9_standsOn RX9 cX9_standsOn 3 (some .int) 1 := ⟨tw_763, tw_764, tw_765, tw_593, by decide +kernel⟩
theorem mX9_likeIt : MV yX9_likeIt RX9 cX9_likeIt 4 (some .int) 1 := ⟨tw_766, tw_767, tw_768, tw_593, by decide +kernel⟩
theorem mX9_tellPlot : MV yX9_tellPlot RX9 cX9_tellPlot 3 (some .int) 2 := ⟨tw_771, tw_772, tw_773, tw_593, by decide +kernel⟩
theorem mX9_plot : MV yX9_plot RX9 cX9_plot 3 (some .int) 2 := ⟨tw_776, tw_777, tw_778, tw_593, by decide +kernel⟩
theorem mX9_goNights : MV yX9_goNights RX9 cX9_goNights 3 none 1 := ⟨tw_779, tw_780, tw_781, tw_593, by decide +kernel⟩
theorem mX9_whereOf : MV yX9_whereOf RX9 cX9_whereOf 3 (some .int) 2 := ⟨tw_783, tw_784, tw_785, tw_593, by decide +kernel⟩
theorem mX9_where : MV yX9_where RX9 cX9_where 3 (some .int) 2 := ⟨tw_788, tw_789, tw_790, tw_593, by decide +kernel⟩
theorem mX9_when : MV yX9_when RX9 cX9_when 4 (some .int) 2 := ⟨tw_791, tw_792, tw_793, tw_593, by decide +kernel⟩
theorem mX9_neighbours : MV yX9_neighbours RX9 cX9_neighbours 4 (some .int) 2 := ⟨tw_794, tw_795, tw_796, tw_593, by decide +kernel⟩
theorem mX9_isAsNow : MV yX9_isAsNow RX9 cX9_isAsNow 3 (some .boolean) 0 := ⟨tw_797, tw_798, tw_799, tw_593, by decide +kernel⟩
theorem mX9_againOf : MV yX9_againOf RX9 cX9_againOf 2 (some .int) 0 := ⟨tw_801, tw_802, tw_803, tw_593, by decide +kernel⟩
theorem mX9_again : MV yX9_again RX9 cX9_again 1 (some .int) 0 := ⟨tw_805, tw_806, tw_807, tw_593, by decide +kernel⟩
theorem mX9_post : MV yX9_post RX9 cX9_post 4 (some .int) 2 := ⟨tw_808, tw_809, tw_810, tw_593, by decide +kernel⟩
theorem mX9_willOf : MV yX9_willOf RX9 cX9_willOf 5 (some .int) 2 := ⟨tw_811, tw_812, tw_813, tw_593, by decide +kernel⟩
theorem mX9_will : MV yX9_will RX9 cX9_will 3 (some .int) 2 := ⟨tw_816, tw_817, tw_818, tw_593, by decide +kernel⟩
theorem mX9_rings : MV yX9_rings RX9 cX9_rings 1 (some .int) 0 := ⟨tw_819, tw_820, tw_821, tw_593, by decide +kernel⟩
theorem mX9_wish : MV yX9_wish RX9 cX9_wish 4 (some .int) 3 := ⟨tw_824, tw_825, tw_826, tw_593, by decide +kernel⟩
theorem mX9_give : MV yX9_give RX9 cX9_give 2 (some .int) 0 := ⟨tw_827, tw_828, tw_829, tw_593, by decide +kernel⟩
theorem mX9_comeTrue : MV yX9_comeTrue RX9 cX9_comeTrue 4 (some .int) 0 := ⟨tw_831, tw_832, tw_833, tw_593, by decide +kernel⟩
theorem mX9_nextOrder : MV yX9_nextOrder RX9 cX9_nextOrder 7 (some .boolean) 0 := ⟨tw_834, tw_835, tw_836, tw_593, by decide +kernel⟩
theorem mX9_orderOf : MV yX9_orderOf RX9 cX9_orderOf 5 (some .int) 1 := ⟨tw_840, tw_841, tw_842, tw_593, by decide +kernel⟩
theorem mX9_order : MV yX9_order RX9 cX9_order 2 (some .int) 1 := ⟨tw_847, tw_848, tw_849, tw_593, by decide +kernel⟩
theorem mX9_see : MV yX9_see RX9 cX9_see 4 (some .int) 3 := ⟨tw_850, tw_851, tw_852, tw_593, by decide +kernel⟩
theorem mX9_forget : MV yX9_forget RX9 cX9_forget 2 (some .int) 0 := ⟨tw_853, tw_854, tw_855, tw_593, by decide +kernel⟩
theorem mX9_draw : MV yX9_draw RX9 cX9_draw 2 (some .int) 1 := ⟨tw_861, tw_862, tw_863, tw_593, by decide +kernel⟩
theorem mX9_worthThen : MV yX9_worthThen RX9 cX9_worthThen 3 (some .int) 0 := ⟨tw_864, tw_865, tw_866, tw_593, by decide +kernel⟩
theorem mX9_years : MV yX9_years RX9 cX9_years 7 (some .int) 3 := ⟨tw_870, tw_871, tw_872, tw_593, by decide +kernel⟩
theorem mX9_image : MV yX9_image RX9 cX9_image 1 (some .int) 0 := ⟨tw_885, tw_886, tw_887, tw_593, by decide +kernel⟩
theorem mX9_restore : MV yX9_restore RX9 cX9_restore 1 (some .int) 0 := ⟨tw_888, tw_889, tw_890, tw_593, by decide +kernel⟩
theorem mX9_standing : MV yX9_standing RX9 cX9_standing 3 (some .int) 0 := ⟨tw_891, tw_892, tw_893, tw_593, by decide +kernel⟩
theorem mX9_worthNow : MV yX9_worthNow RX9 cX9_worthNow 3 (some .int) 0 := ⟨tw_894, tw_895, tw_896, tw_593, by decide +kernel⟩
theorem mX9_hadAll : MV yX9_hadAll RX9 cX9_hadAll 3 (some .int) 0 := ⟨tw_897, tw_898, tw_899, tw_593, by decide +kernel⟩
theorem mX9_countOf : MV yX9_countOf RX9 cX9_countOf 2 (some .int) 1 := ⟨tw_903, tw_904, tw_905, tw_593, by decide +kernel⟩
theorem mX9_count : MV yX9_count RX9 cX9_count 2 (some .int) 1 := ⟨tw_907, tw_908, tw_909, tw_593, by decide +kernel⟩
theorem mX9_say : MV yX9_say RX9 cX9_say 3 none 1 := ⟨tw_912, tw_913, tw_914, tw_593, by decide +kernel⟩
theorem mX9_sayHouse : MV yX9_sayHouse RX9 cX9_sayHouse 3 none 1 := ⟨tw_916, tw_917, tw_918, tw_593, by decide +kernel⟩
theorem mX9_saySquare : MV yX9_saySquare RX9 cX9_saySquare 3 none 0 := ⟨tw_919, tw_920, tw_921, tw_593, by decide +kernel⟩
theorem mX9_digest : MV yX9_digest RX9 cX9_digest 2 (some .long) 0 := ⟨tw_925, tw_926, tw_927, tw_593, by decide +kernel⟩
theorem mX3_init : MI yX3_init cX3_init 1 0 := ⟨tw_932, tw_933, tw_93, rfl, by decide +kernel⟩
theorem mX0_init : MI yX0_init cX0_init 1 0 := ⟨tw_935, tw_936, tw_110, rfl, by decide +kernel⟩
theorem mX2_init : MI yX2_init cX2_init 3 1 := ⟨tw_938, tw_939, tw_136, rfl, by decide +kernel⟩
theorem mX6_init : MI yX6_init cX6_init 1 0 := ⟨tw_941, tw_942, tw_118, rfl, by decide +kernel⟩
theorem mX5_init : MI yX5_init cX5_init 1 0 := ⟨tw_949, tw_950, tw_334, rfl, by decide +kernel⟩
theorem mX7_init : MI yX7_init cX7_init 1 0 := ⟨tw_953, tw_954, tw_376, rfl, by decide +kernel⟩
theorem mX4_init : MI yX4_init cX4_init 1 0 := ⟨tw_957, tw_958, tw_302, rfl, by decide +kernel⟩
theorem mX1_init : MI yX1_init cX1_init 1 0 := ⟨tw_962, tw_963, tw_182, rfl, by decide +kernel⟩
theorem mX8_init : MI yX8_init cX8_init 1 0 := ⟨tw_978, tw_979, tw_358, rfl, by decide +kernel⟩
theorem mX9_init : MI yX9_init cX9_init 1 0 := ⟨tw_981, tw_982, tw_593, rfl, by decide +kernel⟩
