theorem tw_0 : (Jvm.Cond.laysFinal "TurningTown$Ground" "TurningTown$Ground" "worth" "[I") ∈ TT := tt_in (in_1 (List.mem_of_getElem? (i := 55) rfl)) rfl
theorem tw_1 : (Jvm.Cond.laysFinal "TurningTown$Ground" "TurningTown$Ground" "liked" "[I") ∈ TT := tt_in (in_1 (List.mem_of_getElem? (i := 57) rfl)) rfl
theorem tw_2 : (Jvm.Cond.lays "TurningTown$Ground" "TurningTown$Ground" "houses" "I") ∈ TT := tt_in (in_1 (List.mem_of_getElem? (i := 59) rfl)) rfl
theorem tw_3 : (Jvm.Cond.laysFinal "TurningTown$Guess" "TurningTown$Guess" "track" "[[I") ∈ TT := tt_in (in_1 (List.mem_of_getElem? (i := 222) rfl)) rfl
theorem tw_4 : (Jvm.Cond.laysFinal "TurningTown$Guess" "TurningTown$Guess" "town" "LTurningTown$Town;") ∈ TT := tt_in (in_1 (List.mem_of_getElem? (i := 224) rfl)) rfl
theorem tw_5 : (Jvm.Cond.laysFinal "TurningTown$Notes" "TurningTown$Notes" "house" "[I") ∈ TT := tt_in (in_1 (List.mem_of_getElem? (i := 131) rfl)) rfl
theorem tw_6 : (Jvm.Cond.laysFinal "TurningTown$Notes" "TurningTown$Notes" "plot" "[I") ∈ TT := tt_in (in_1 (List.mem_of_getElem? (i := 133) rfl)) rfl
theorem tw_7 : (Jvm.Cond.laysFinal "TurningTown$Notes" "TurningTown$Notes" "night" "[I") ∈ TT := tt_in (in_1 (List.mem_of_getElem? (i := 135) rfl)) rfl
theorem tw_8 : (Jvm.Cond.lays "TurningTown$Notes" "TurningTown$Notes" "size" "I") ∈ TT := tt_in (in_1 (List.mem_of_getElem? (i := 137) rfl)) rfl
theorem tw_9 : (Jvm.Cond.laysFinal "TurningTown$Page" "TurningTown$Page" "letters" "[I") ∈ TT := tt_in (in_1 (List.mem_of_getElem? (i := 36) rfl)) rfl
theorem tw_10 : (Jvm.Cond.lays "TurningTown$Page" "TurningTown$Page" "size" "I") ∈ TT := tt_in (in_1 (List.mem_of_getElem? (i := 38) rfl)) rfl
theorem tw_11 : (Jvm.Cond.laysFinal "TurningTown$Plan" "TurningTown$Plan" "best" "[I") ∈ TT := tt_in (in_1 (List.mem_of_getElem? (i := 201) rfl)) rfl
theorem tw_12 : (Jvm.Cond.laysFinal "TurningTown$Plan" "TurningTown$Plan" "trial" "[I") ∈ TT := tt_in (in_1 (List.mem_of_getElem? (i := 203) rfl)) rfl
theorem tw_13 : (Jvm.Cond.laysFinal "TurningTown$Plan" "TurningTown$Plan" "town" "LTurningTown$Town;") ∈ TT := tt_in (in_1 (List.mem_of_getElem? (i := 205) rfl)) rfl
theorem tw_14 : (Jvm.Cond.lays "TurningTown$Plan" "TurningTown$Plan" "most" "I") ∈ TT := tt_in (in_1 (List.mem_of_getElem? (i := 207) rfl)) rfl
theorem tw_15 : (Jvm.Cond.laysFinal "TurningTown$Story" "TurningTown$Story" "town" "LTurningTown$Town;") ∈ TT := tt_in (in_1 (List.mem_of_getElem? (i := 152) rfl)) rfl
theorem tw_16 : (Jvm.Cond.laysFinal "TurningTown$Story" "TurningTown$Story" "had" "[I") ∈ TT := tt_in (in_1 (List.mem_of_getElem? (i := 154) rfl)) rfl
theorem tw_17 : (Jvm.Cond.laysFinal "TurningTown$Story" "TurningTown$Story" "wishes" "LTurningTown$Notes;") ∈ TT := tt_in (in_1 (List.mem_of_getElem? (i := 156) rfl)) rfl
theorem tw_18 : (Jvm.Cond.laysFinal "TurningTown$Story" "TurningTown$Story" "seen" "LTurningTown$Notes;") ∈ TT := tt_in (in_1 (List.mem_of_getElem? (i := 158) rfl)) rfl
theorem tw_19 : (Jvm.Cond.lays "TurningTown$Story" "TurningTown$Story" "nights" "I") ∈ TT := tt_in (in_1 (List.mem_of_getElem? (i := 160) rfl)) rfl
theorem tw_20 : (Jvm.Cond.laysFinal "TurningTown$Town" "TurningTown$Town" "kindOf" "[I") ∈ TT := tt_in (in_1 (List.mem_of_getElem? (i := 97) rfl)) rfl
theorem tw_21 : (Jvm.Cond.laysFinal "TurningTown$Town" "TurningTown$Town" "plotOf" "[I") ∈ TT := tt_in (in_1 (List.mem_of_getElem? (i := 99) rfl)) rfl
theorem tw_22 : (Jvm.Cond.laysFinal "TurningTown$Town" "TurningTown$Town" "row" "[I") ∈ TT := tt_in (in_1 (List.mem_of_getElem? (i := 101) rfl)) rfl
theorem tw_23 : (Jvm.Cond.laysFinal "TurningTown$Town" "TurningTown$Town" "standsOn" "[I") ∈ TT := tt_in (in_1 (List.mem_of_getElem? (i := 103) rfl)) rfl
theorem tw_24 : (Jvm.Cond.lays "TurningTown$Town" "TurningTown$Town" "houses" "I") ∈ TT := tt_in (in_1 (List.mem_of_getElem? (i := 105) rfl)) rfl
theorem tw_25 : (Jvm.Cond.lays "TurningTown$Town" "TurningTown$Town" "front" "I") ∈ TT := tt_in (in_1 (List.mem_of_getElem? (i := 107) rfl)) rfl
theorem tw_26 : (Jvm.Cond.lays "TurningTown$Town" "TurningTown$Town" "downFor" "I") ∈ TT := tt_in (in_1 (List.mem_of_getElem? (i := 109) rfl)) rfl
theorem tw_27 : (Jvm.Cond.laysFinal "TurningTown$Trade" "TurningTown$Trade" "gets" "[I") ∈ TT := tt_in (in_1 (List.mem_of_getElem? (i := 177) rfl)) rfl
theorem tw_28 : (Jvm.Cond.laysFinal "TurningTown$Trade" "TurningTown$Trade" "pointsTo" "[I") ∈ TT := tt_in (in_1 (List.mem_of_getElem? (i := 179) rfl)) rfl
theorem tw_29 : (Jvm.Cond.laysFinal "TurningTown$Trade" "TurningTown$Trade" "isLeft" "[Z") ∈ TT := tt_in (in_1 (List.mem_of_getElem? (i := 181) rfl)) rfl
theorem tw_30 : (Jvm.Cond.lays "TurningTown$Trade" "TurningTown$Trade" "rings" "I") ∈ TT := tt_in (in_1 (List.mem_of_getElem? (i := 183) rfl)) rfl
theorem tw_31 : (Jvm.Cond.laysFinal "TurningTown" "TurningTown" "page" "LTurningTown$Page;") ∈ TT := tt_in (in_1 (List.mem_of_getElem? (i := 238) rfl)) rfl
theorem tw_32 : (Jvm.Cond.laysFinal "TurningTown" "TurningTown" "ground" "LTurningTown$Ground;") ∈ TT := tt_in (in_2 (List.mem_of_getElem? (i := 0) rfl)) rfl
theorem tw_33 : (Jvm.Cond.laysFinal "TurningTown" "TurningTown" "now" "LTurningTown$Story;") ∈ TT := tt_in (in_2 (List.mem_of_getElem? (i := 2) rfl)) rfl
theorem tw_34 : (Jvm.Cond.laysFinal "TurningTown" "TurningTown" "kept" "LTurningTown$Story;") ∈ TT := tt_in (in_2 (List.mem_of_getElem? (i := 4) rfl)) rfl
theorem tw_35 : (Jvm.Cond.laysFinal "TurningTown" "TurningTown" "ahead" "LTurningTown$Town;") ∈ TT := tt_in (in_2 (List.mem_of_getElem? (i := 6) rfl)) rfl
theorem tw_36 : (Jvm.Cond.laysFinal "TurningTown" "TurningTown" "trade" "LTurningTown$Trade;") ∈ TT := tt_in (in_2 (List.mem_of_getElem? (i := 8) rfl)) rfl
theorem tw_37 : (Jvm.Cond.laysFinal "TurningTown" "TurningTown" "plan" "LTurningTown$Plan;") ∈ TT := tt_in (in_2 (List.mem_of_getElem? (i := 10) rfl)) rfl
theorem tw_38 : (Jvm.Cond.laysFinal "TurningTown" "TurningTown" "guess" "LTurningTown$Guess;") ∈ TT := tt_in (in_2 (List.mem_of_getElem? (i := 12) rfl)) rfl
theorem tw_39 : (Jvm.Cond.lays "TurningTown" "TurningTown" "isKept" "Z") ∈ TT := tt_in (in_2 (List.mem_of_getElem? (i := 14) rfl)) rfl
theorem tw_40 : (Jvm.Cond.lays "TurningTown" "TurningTown" "squaresRead" "I") ∈ TT := tt_in (in_2 (List.mem_of_getElem? (i := 16) rfl)) rfl
theorem tw_41 : (Jvm.Cond.lays "TurningTown" "TurningTown" "ordersDone" "I") ∈ TT := tt_in (in_2 (List.mem_of_getElem? (i := 18) rfl)) rfl
theorem tw_42 : (Jvm.Cond.laysFinal "TurningTownModel" "TurningTownModel" "page" "[I") ∈ TT := tt_in (in_4 (List.mem_of_getElem? (i := 82) rfl)) rfl
theorem tw_43 : (Jvm.Cond.lays "TurningTownModel" "TurningTownModel" "pageMany" "I") ∈ TT := tt_in (in_4 (List.mem_of_getElem? (i := 84) rfl)) rfl
theorem tw_44 : (Jvm.Cond.lays "TurningTownModel" "TurningTownModel" "houses" "I") ∈ TT := tt_in (in_4 (List.mem_of_getElem? (i := 86) rfl)) rfl
theorem tw_45 : (Jvm.Cond.lays "TurningTownModel" "TurningTownModel" "nights" "I") ∈ TT := tt_in (in_4 (List.mem_of_getElem? (i := 88) rfl)) rfl
theorem tw_46 : (Jvm.Cond.lays "TurningTownModel" "TurningTownModel" "squaresRead" "I") ∈ TT := tt_in (in_4 (List.mem_of_getElem? (i := 90) rfl)) rfl
theorem tw_47 : (Jvm.Cond.laysFinal "TurningTownModel" "TurningTownModel" "worths" "[I") ∈ TT := tt_in (in_4 (List.mem_of_getElem? (i := 92) rfl)) rfl
theorem tw_48 : (Jvm.Cond.laysFinal "TurningTownModel" "TurningTownModel" "kinds" "[I") ∈ TT := tt_in (in_4 (List.mem_of_getElem? (i := 94) rfl)) rfl
theorem tw_49 : (Jvm.Cond.laysFinal "TurningTownModel" "TurningTownModel" "likes" "[I") ∈ TT := tt_in (in_4 (List.mem_of_getElem? (i := 96) rfl)) rfl
theorem tw_50 : (Jvm.Cond.laysFinal "TurningTownModel" "TurningTownModel" "had" "[I") ∈ TT := tt_in (in_4 (List.mem_of_getElem? (i := 98) rfl)) rfl
theorem tw_51 : (Jvm.Cond.laysFinal "TurningTownModel" "TurningTownModel" "plots" "[I") ∈ TT := tt_in (in_4 (List.mem_of_getElem? (i := 100) rfl)) rfl
theorem tw_52 : (Jvm.Cond.laysFinal "TurningTownModel" "TurningTownModel" "row" "[I") ∈ TT := tt_in (in_4 (List.mem_of_getElem? (i := 102) rfl)) rfl
theorem tw_53 : (Jvm.Cond.lays "TurningTownModel" "TurningTownModel" "front" "I") ∈ TT := tt_in (in_4 (List.mem_of_getElem? (i := 104) rfl)) rfl
theorem tw_54 : (Jvm.Cond.lays "TurningTownModel" "TurningTownModel" "down" "I") ∈ TT := tt_in (in_4 (List.mem_of_getElem? (i := 106) rfl)) rfl
theorem tw_55 : (Jvm.Cond.laysFinal "TurningTownModel" "TurningTownModel" "plotsThen" "[I") ∈ TT := tt_in (in_4 (List.mem_of_getElem? (i := 108) rfl)) rfl
theorem tw_56 : (Jvm.Cond.laysFinal "TurningTownModel" "TurningTownModel" "rowThen" "[I") ∈ TT := tt_in (in_4 (List.mem_of_getElem? (i := 110) rfl)) rfl
theorem tw_57 : (Jvm.Cond.lays "TurningTownModel" "TurningTownModel" "frontThen" "I") ∈ TT := tt_in (in_4 (List.mem_of_getElem? (i := 112) rfl)) rfl
theorem tw_58 : (Jvm.Cond.lays "TurningTownModel" "TurningTownModel" "downThen" "I") ∈ TT := tt_in (in_4 (List.mem_of_getElem? (i := 114) rfl)) rfl
theorem tw_59 : (Jvm.Cond.laysFinal "TurningTownModel" "TurningTownModel" "traded" "[I") ∈ TT := tt_in (in_4 (List.mem_of_getElem? (i := 116) rfl)) rfl
theorem tw_60 : (Jvm.Cond.laysFinal "TurningTownModel" "TurningTownModel" "points" "[I") ∈ TT := tt_in (in_4 (List.mem_of_getElem? (i := 118) rfl)) rfl
theorem tw_61 : (Jvm.Cond.lays "TurningTownModel" "TurningTownModel" "ringsMany" "I") ∈ TT := tt_in (in_4 (List.mem_of_getElem? (i := 120) rfl)) rfl
theorem tw_62 : (Jvm.Cond.laysFinal "TurningTownModel" "TurningTownModel" "ringLong" "[I") ∈ TT := tt_in (in_4 (List.mem_of_getElem? (i := 122) rfl)) rfl
theorem tw_63 : (Jvm.Cond.lays "TurningTownModel" "TurningTownModel" "wishesMany" "I") ∈ TT := tt_in (in_4 (List.mem_of_getElem? (i := 124) rfl)) rfl
theorem tw_64 : (Jvm.Cond.laysFinal "TurningTownModel" "TurningTownModel" "wishes" "[I") ∈ TT := tt_in (in_4 (List.mem_of_getElem? (i := 126) rfl)) rfl
theorem tw_65 : (Jvm.Cond.lays "TurningTownModel" "TurningTownModel" "ordersDone" "I") ∈ TT := tt_in (in_4 (List.mem_of_getElem? (i := 128) rfl)) rfl
theorem tw_66 : (Jvm.Cond.laysFinal "TurningTownModel" "TurningTownModel" "order" "[I") ∈ TT := tt_in (in_4 (List.mem_of_getElem? (i := 130) rfl)) rfl
theorem tw_67 : (Jvm.Cond.laysFinal "TurningTownModel" "TurningTownModel" "bestOrder" "[I") ∈ TT := tt_in (in_4 (List.mem_of_getElem? (i := 132) rfl)) rfl
theorem tw_68 : (Jvm.Cond.lays "TurningTownModel" "TurningTownModel" "seenMany" "I") ∈ TT := tt_in (in_4 (List.mem_of_getElem? (i := 134) rfl)) rfl
theorem tw_69 : (Jvm.Cond.laysFinal "TurningTownModel" "TurningTownModel" "sights" "[I") ∈ TT := tt_in (in_4 (List.mem_of_getElem? (i := 136) rfl)) rfl
theorem tw_70 : (Jvm.Cond.laysFinal "TurningTownModel" "TurningTownModel" "ways" "[I") ∈ TT := tt_in (in_4 (List.mem_of_getElem? (i := 138) rfl)) rfl
theorem tw_71 : (Jvm.Cond.lays "TurningTownModel" "TurningTownModel" "seedNow" "I") ∈ TT := tt_in (in_4 (List.mem_of_getElem? (i := 140) rfl)) rfl
theorem tw_72 : (Jvm.Cond.lays "TurningTownModel" "TurningTownModel" "keptSquare" "I") ∈ TT := tt_in (in_4 (List.mem_of_getElem? (i := 142) rfl)) rfl
theorem tw_73 : (Jvm.Cond.lays "TurningTownModel" "TurningTownModel" "keptFront" "I") ∈ TT := tt_in (in_4 (List.mem_of_getElem? (i := 144) rfl)) rfl
theorem tw_74 : (Jvm.Cond.lays "TurningTownModel" "TurningTownModel" "keptDown" "I") ∈ TT := tt_in (in_4 (List.mem_of_getElem? (i := 146) rfl)) rfl
theorem tw_75 : (Jvm.Cond.lays "TurningTownModel" "TurningTownModel" "keptNights" "I") ∈ TT := tt_in (in_4 (List.mem_of_getElem? (i := 148) rfl)) rfl
theorem tw_76 : (Jvm.Cond.lays "TurningTownModel" "TurningTownModel" "keptWishesMany" "I") ∈ TT := tt_in (in_4 (List.mem_of_getElem? (i := 150) rfl)) rfl
theorem tw_77 : (Jvm.Cond.lays "TurningTownModel" "TurningTownModel" "keptSeen" "I") ∈ TT := tt_in (in_4 (List.mem_of_getElem? (i := 152) rfl)) rfl
theorem tw_78 : (Jvm.Cond.laysFinal "TurningTownModel" "TurningTownModel" "keptKinds" "[I") ∈ TT := tt_in (in_4 (List.mem_of_getElem? (i := 154) rfl)) rfl
theorem tw_79 : (Jvm.Cond.laysFinal "TurningTownModel" "TurningTownModel" "keptPlots" "[I") ∈ TT := tt_in (in_4 (List.mem_of_getElem? (i := 156) rfl)) rfl
theorem tw_80 : (Jvm.Cond.laysFinal "TurningTownModel" "TurningTownModel" "keptRow" "[I") ∈ TT := tt_in (in_4 (List.mem_of_getElem? (i := 158) rfl)) rfl
theorem tw_81 : (Jvm.Cond.laysFinal "TurningTownModel" "TurningTownModel" "keptHad" "[I") ∈ TT := tt_in (in_4 (List.mem_of_getElem? (i := 160) rfl)) rfl
theorem tw_82 : (Jvm.Cond.laysFinal "TurningTownModel" "TurningTownModel" "keptWishes" "[I") ∈ TT := tt_in (in_4 (List.mem_of_getElem? (i := 162) rfl)) rfl
theorem tw_83 : (Jvm.Cond.laysFinal "TurningTownModel" "TurningTownModel" "keptSights" "[I") ∈ TT := tt_in (in_4 (List.mem_of_getElem? (i := 164) rfl)) rfl
theorem tw_84 : (Jvm.Cond.lays "TurningTownModel" "TurningTownModel" "hash" "J") ∈ TT := tt_in (in_4 (List.mem_of_getElem? (i := 166) rfl)) rfl
theorem tw_85 : (Jvm.Cond.fieldLink "TurningTown$Town" (15 : Nat) "TurningTown$Town" "plotOf" "[I") ∈ TT := tt_in (in_1 (List.mem_of_getElem? (i := 78) rfl)) rfl
theorem tw_86 : (Jvm.Cond.code ({ cls := "TurningTown$Town", name := "isDown", desc := "(I)Z" } : Jvm.MethodName) prog_8_method_11_code (2 : Nat) (Option.some Jvm.ClassFile.FieldType.boolean)) ∈ TT := tt_in (in_3 (List.mem_of_getElem? (i := 25) rfl)) rfl
theorem tw_87 : (Jvm.Cond.instanceMethod ({ cls := "TurningTown$Town", name := "isDown", desc := "(I)Z" } : Jvm.MethodName)) ∈ TT := tt_in (in_3 (List.mem_of_getElem? (i := 23) rfl)) rfl
theorem tw_88 : (Jvm.Cond.selects "TurningTown$Town" ({ cls := "TurningTown$Town", name := "isDown", desc := "(I)Z" } : Jvm.MethodName) ({ cls := "TurningTown$Town", name := "isDown", desc := "(I)Z" } : Jvm.MethodName)) ∈ TT := tt_in (in_3 (List.mem_of_getElem? (i := 24) rfl)) rfl
theorem tw_89 : (Jvm.Cond.initialized "TurningTown$Town") ∈ TT := tt_in (in_1 (List.mem_of_getElem? (i := 5) rfl)) rfl
theorem tw_90 : (Jvm.Cond.fieldLink "TurningTown$Town" (30 : Nat) "TurningTown$Town" "houses" "I") ∈ TT := tt_in (in_1 (List.mem_of_getElem? (i := 90) rfl)) rfl
theorem tw_91 : (Jvm.Cond.methodLink "TurningTown$Town" (63 : Nat) ({ cls := "TurningTown$Town", name := "isDown", desc := "(I)Z" } : Jvm.MethodName)) ∈ TT := tt_in (in_3 (List.mem_of_getElem? (i := 127) rfl)) rfl
theorem tw_92 : (Jvm.Cond.code ({ cls := "TurningTown$Town", name := "standing", desc := "()I" } : Jvm.MethodName) prog_8_method_14_code (3 : Nat) (Option.some Jvm.ClassFile.FieldType.int)) ∈ TT := tt_in (in_4 (List.mem_of_getElem? (i := 11) rfl)) rfl
theorem tw_93 : (Jvm.Cond.instanceMethod ({ cls := "TurningTown$Town", name := "standing", desc := "()I" } : Jvm.MethodName)) ∈ TT := tt_in (in_4 (List.mem_of_getElem? (i := 9) rfl)) rfl
theorem tw_94 : (Jvm.Cond.selects "TurningTown$Town" ({ cls := "TurningTown$Town", name := "standing", desc := "()I" } : Jvm.MethodName) ({ cls := "TurningTown$Town", name := "standing", desc := "()I" } : Jvm.MethodName)) ∈ TT := tt_in (in_4 (List.mem_of_getElem? (i := 10) rfl)) rfl
theorem tw_95 : (Jvm.Cond.methodLink "TurningTown" (285 : Nat) ({ cls := "java/lang/Math", name := "abs", desc := "(I)I" } : Jvm.MethodName)) ∈ TT := tt_in (in_3 (List.mem_of_getElem? (i := 41) rfl)) rfl
theorem tw_96 : (Jvm.Cond.static ({ cls := "java/lang/Math", name := "abs", desc := "(I)I" } : Jvm.MethodName)) ∈ TT := tt_in (in_3 (List.mem_of_getElem? (i := 42) rfl)) rfl
theorem tw_97 : (Jvm.Cond.initialized "java/lang/Math") ∈ TT := tt_in (in_1 (List.mem_of_getElem? (i := 7) rfl)) rfl
theorem tw_98 : (Jvm.Cond.code ({ cls := "java/lang/Math", name := "abs", desc := "(I)I" } : Jvm.MethodName) prog_13_method_59_code (1 : Nat) (Option.some Jvm.ClassFile.FieldType.int)) ∈ TT := tt_in (in_3 (List.mem_of_getElem? (i := 43) rfl)) rfl
theorem tw_99 : (Jvm.Cond.methodLink "TurningTown" (290 : Nat) ({ cls := "java/lang/Math", name := "min", desc := "(II)I" } : Jvm.MethodName)) ∈ TT := tt_in (in_3 (List.mem_of_getElem? (i := 44) rfl)) rfl
theorem tw_100 : (Jvm.Cond.static ({ cls := "java/lang/Math", name := "min", desc := "(II)I" } : Jvm.MethodName)) ∈ TT := tt_in (in_2 (List.mem_of_getElem? (i := 78) rfl)) rfl
theorem tw_101 : (Jvm.Cond.code ({ cls := "java/lang/Math", name := "min", desc := "(II)I" } : Jvm.MethodName) prog_13_method_69_code (2 : Nat) (Option.some Jvm.ClassFile.FieldType.int)) ∈ TT := tt_in (in_2 (List.mem_of_getElem? (i := 79) rfl)) rfl
theorem tw_102 : (Jvm.Cond.code ({ cls := "TurningTown", name := "wayRound", desc := "(II)I" } : Jvm.MethodName) prog_1_method_37_code (3 : Nat) (Option.some Jvm.ClassFile.FieldType.int)) ∈ TT := tt_in (in_3 (List.mem_of_getElem? (i := 40) rfl)) rfl
theorem tw_103 : (Jvm.Cond.static ({ cls := "TurningTown", name := "wayRound", desc := "(II)I" } : Jvm.MethodName)) ∈ TT := tt_in (in_3 (List.mem_of_getElem? (i := 39) rfl)) rfl
theorem tw_104 : (Jvm.Cond.initialized "TurningTown") ∈ TT := tt_in (in_1 (List.mem_of_getElem? (i := 1) rfl)) rfl
theorem tw_105 : (Jvm.Cond.code ({ cls := "TurningTown$Town", name := "areBeside", desc := "(II)Z" } : Jvm.MethodName) prog_8_method_12_code (3 : Nat) (Option.some Jvm.ClassFile.FieldType.boolean)) ∈ TT := tt_in (in_3 (List.mem_of_getElem? (i := 126) rfl)) rfl
theorem tw_106 : (Jvm.Cond.instanceMethod ({ cls := "TurningTown$Town", name := "areBeside", desc := "(II)Z" } : Jvm.MethodName)) ∈ TT := tt_in (in_3 (List.mem_of_getElem? (i := 124) rfl)) rfl
theorem tw_107 : (Jvm.Cond.selects "TurningTown$Town" ({ cls := "TurningTown$Town", name := "areBeside", desc := "(II)Z" } : Jvm.MethodName) ({ cls := "TurningTown$Town", name := "areBeside", desc := "(II)Z" } : Jvm.MethodName)) ∈ TT := tt_in (in_3 (List.mem_of_getElem? (i := 125) rfl)) rfl
theorem tw_108 : (Jvm.Cond.fieldLink "TurningTown$Town" (34 : Nat) "TurningTown$Town" "front" "I") ∈ TT := tt_in (in_1 (List.mem_of_getElem? (i := 93) rfl)) rfl
theorem tw_109 : (Jvm.Cond.fieldLink "TurningTown$Town" (37 : Nat) "TurningTown$Town" "downFor" "I") ∈ TT := tt_in (in_1 (List.mem_of_getElem? (i := 95) rfl)) rfl
theorem tw_110 : (Jvm.Cond.fieldLink "TurningTown$Town" (9 : Nat) "TurningTown$Town" "kindOf" "[I") ∈ TT := tt_in (in_1 (List.mem_of_getElem? (i := 74) rfl)) rfl
theorem tw_111 : (Jvm.Cond.methodLink "TurningTown$Town" (40 : Nat) ({ cls := "java/lang/System", name := "arraycopy", desc := "(Ljava/lang/Object;ILjava/lang/Object;II)V" } : Jvm.MethodName)) ∈ TT := tt_in (in_2 (List.mem_of_getElem? (i := 208) rfl)) rfl
theorem tw_112 : (Jvm.Cond.native ({ cls := "java/lang/System", name := "arraycopy", desc := "(Ljava/lang/Object;ILjava/lang/Object;II)V" } : Jvm.MethodName)) ∈ TT := tt_in (in_2 (List.mem_of_getElem? (i := 210) rfl)) rfl
theorem tw_113 : (Jvm.Cond.static ({ cls := "java/lang/System", name := "arraycopy", desc := "(Ljava/lang/Object;ILjava/lang/Object;II)V" } : Jvm.MethodName)) ∈ TT := tt_in (in_2 (List.mem_of_getElem? (i := 209) rfl)) rfl
theorem tw_114 : (Jvm.Cond.initialized "java/lang/System") ∈ TT := tt_in (in_1 (List.mem_of_getElem? (i := 17) rfl)) rfl
theorem tw_115 : (Jvm.Cond.fieldLink "TurningTown$Town" (18 : Nat) "TurningTown$Town" "row" "[I") ∈ TT := tt_in (in_1 (List.mem_of_getElem? (i := 84) rfl)) rfl
theorem tw_116 : (Jvm.Cond.fieldLink "TurningTown$Town" (21 : Nat) "TurningTown$Town" "standsOn" "[I") ∈ TT := tt_in (in_1 (List.mem_of_getElem? (i := 86) rfl)) rfl
theorem tw_117 : (Jvm.Cond.code ({ cls := "TurningTown$Town", name := "copyFrom", desc := "(LTurningTown$Town;)V" } : Jvm.MethodName) prog_8_method_3_code (2 : Nat) (Option.none : Option Jvm.ClassFile.FieldType)) ∈ TT := tt_in (in_2 (List.mem_of_getElem? (i := 207) rfl)) rfl
theorem tw_118 : (Jvm.Cond.instanceMethod ({ cls := "TurningTown$Town", name := "copyFrom", desc := "(LTurningTown$Town;)V" } : Jvm.MethodName)) ∈ TT := tt_in (in_2 (List.mem_of_getElem? (i := 205) rfl)) rfl
theorem tw_119 : (Jvm.Cond.selects "TurningTown$Town" ({ cls := "TurningTown$Town", name := "copyFrom", desc := "(LTurningTown$Town;)V" } : Jvm.MethodName) ({ cls := "TurningTown$Town", name := "copyFrom", desc := "(LTurningTown$Town;)V" } : Jvm.MethodName)) ∈ TT := tt_in (in_2 (List.mem_of_getElem? (i := 206) rfl)) rfl
theorem tw_120 : (Jvm.Cond.fieldLink "TurningTown$Notes" (27 : Nat) "TurningTown$Notes" "size" "I") ∈ TT := tt_in (in_1 (List.mem_of_getElem? (i := 127) rfl)) rfl
theorem tw_121 : (Jvm.Cond.fieldLink "TurningTown$Notes" (15 : Nat) "TurningTown$Notes" "house" "[I") ∈ TT := tt_in (in_1 (List.mem_of_getElem? (i := 121) rfl)) rfl
theorem tw_122 : (Jvm.Cond.methodLink "TurningTown$Notes" (31 : Nat) ({ cls := "java/lang/Math", name := "min", desc := "(II)I" } : Jvm.MethodName)) ∈ TT := tt_in (in_3 (List.mem_of_getElem? (i := 238) rfl)) rfl
theorem tw_123 : (Jvm.Cond.methodLink "TurningTown$Notes" (34 : Nat) ({ cls := "java/lang/System", name := "arraycopy", desc := "(Ljava/lang/Object;ILjava/lang/Object;II)V" } : Jvm.MethodName)) ∈ TT := tt_in (in_3 (List.mem_of_getElem? (i := 239) rfl)) rfl
theorem tw_124 : (Jvm.Cond.fieldLink "TurningTown$Notes" (21 : Nat) "TurningTown$Notes" "plot" "[I") ∈ TT := tt_in (in_1 (List.mem_of_getElem? (i := 123) rfl)) rfl
theorem tw_125 : (Jvm.Cond.fieldLink "TurningTown$Notes" (24 : Nat) "TurningTown$Notes" "night" "[I") ∈ TT := tt_in (in_1 (List.mem_of_getElem? (i := 125) rfl)) rfl
theorem tw_126 : (Jvm.Cond.code ({ cls := "TurningTown$Notes", name := "copyFrom", desc := "(LTurningTown$Notes;)V" } : Jvm.MethodName) prog_4_method_4_code (2 : Nat) (Option.none : Option Jvm.ClassFile.FieldType)) ∈ TT := tt_in (in_3 (List.mem_of_getElem? (i := 237) rfl)) rfl
theorem tw_127 : (Jvm.Cond.instanceMethod ({ cls := "TurningTown$Notes", name := "copyFrom", desc := "(LTurningTown$Notes;)V" } : Jvm.MethodName)) ∈ TT := tt_in (in_3 (List.mem_of_getElem? (i := 235) rfl)) rfl
theorem tw_128 : (Jvm.Cond.selects "TurningTown$Notes" ({ cls := "TurningTown$Notes", name := "copyFrom", desc := "(LTurningTown$Notes;)V" } : Jvm.MethodName) ({ cls := "TurningTown$Notes", name := "copyFrom", desc := "(LTurningTown$Notes;)V" } : Jvm.MethodName)) ∈ TT := tt_in (in_3 (List.mem_of_getElem? (i := 236) rfl)) rfl
theorem tw_129 : (Jvm.Cond.initialized "TurningTown$Notes") ∈ TT := tt_in (in_1 (List.mem_of_getElem? (i := 6) rfl)) rfl
theorem iX0 : ∀ w ∈ u_ws RX0 TX0 3, w ∈ TT := List.forall_mem_cons.mpr ⟨tw_0, List.forall_mem_cons.mpr ⟨tw_1, List.forall_mem_cons.mpr ⟨tw_2, fun _ h => absurd h List.not_mem_nil⟩⟩⟩
theorem iX1 : ∀ w ∈ u_ws RX1 TX1 2, w ∈ TT := List.forall_mem_cons.mpr ⟨tw_3, List.forall_mem_cons.mpr ⟨tw_4, fun _ h => absurd h List.not_mem_nil⟩⟩
theorem iX2 : ∀ w ∈ u_ws RX2 TX2 4, w ∈ TT := List.forall_mem_cons.mpr ⟨tw_5, List.forall_mem_cons.mpr ⟨tw_6, List.forall_mem_cons.mpr ⟨tw_7, List.forall_mem_cons.mpr ⟨tw_8, fun _ h => absurd h List.not_mem_nil⟩⟩⟩⟩
theorem iX3 : ∀ w ∈ u_ws RX3 TX3 2, w ∈ TT := List.forall_mem_cons.mpr ⟨tw_9, List.forall_mem_cons.mpr ⟨tw_10, fun _ h => absurd h List.not_mem_nil⟩⟩
theorem iX4 : ∀ w ∈ u_ws RX4 TX4 4, w ∈ TT := List.forall_mem_cons.mpr ⟨tw_11, List.forall_mem_cons.mpr ⟨tw_12, List.forall_mem_cons.mpr ⟨tw_13, List.forall_mem_cons.mpr ⟨tw_14, fun _ h => absurd h List.not_mem_nil⟩⟩⟩⟩
theorem iX5 : ∀ w ∈ u_ws RX5 TX5 5, w ∈ TT := List.forall_mem_cons.mpr ⟨tw_15, List.forall_mem_cons.mpr ⟨tw_16, List.forall_mem_cons.mpr ⟨tw_17, List.forall_mem_cons.mpr ⟨tw_18, List.forall_mem_cons.mpr ⟨tw_19, fun _ h => absurd h List.not_mem_nil⟩⟩⟩⟩⟩
theorem iX6 : ∀ w ∈ u_ws RX6 TX6 7, w ∈ TT := List.forall_mem_cons.mpr ⟨tw_20, List.forall_mem_cons.mpr ⟨tw_21, List.forall_mem_cons.mpr ⟨tw_22, List.forall_mem_cons.mpr ⟨tw_23, List.forall_mem_cons.mpr ⟨tw_24, List.forall_mem_cons.mpr ⟨tw_25, List.forall_mem_cons.mpr ⟨tw_26, fun _ h => absurd h List.not_mem_nil⟩⟩⟩⟩⟩⟩⟩
theorem iX7 : ∀ w ∈ u_ws RX7 TX7 4, w ∈ TT := List.forall_mem_cons.mpr ⟨tw_27, List.forall_mem_cons.mpr ⟨tw_28, List.forall_mem_cons.mpr ⟨tw_29, List.forall_mem_cons.mpr ⟨tw_30, fun _ h => absurd h List.not_mem_nil⟩⟩⟩⟩
theorem iX8 : ∀ w ∈ u_ws RX8 TX8 11, w ∈ TT := List.forall_mem_cons.mpr ⟨tw_31, List.forall_mem_cons.mpr ⟨tw_32, List.forall_mem_cons.mpr ⟨tw_33, List.forall_mem_cons.mpr ⟨tw_34, List.forall_mem_cons.mpr ⟨tw_35, List.forall_mem_cons.mpr ⟨tw_36, List.forall_mem_cons.mpr ⟨tw_37, List.forall_mem_cons.mpr ⟨tw_38, List.forall_mem_cons.mpr ⟨tw_39, List.forall_mem_cons.mpr ⟨tw_40, List.forall_mem_cons.mpr ⟨tw_41, fun _ h => absurd h List.not_mem_nil⟩⟩⟩⟩⟩⟩⟩⟩⟩⟩⟩
theorem iX9 : ∀ w ∈ u_ws RX9 TX9 43, w ∈ TT := List.forall_mem_cons.mpr ⟨tw_42, List.forall_mem_cons.mpr ⟨tw_43, List.forall_mem_cons.mpr ⟨tw_44, List.forall_mem_cons.mpr ⟨tw_45, List.forall_mem_cons.mpr ⟨tw_46, List.forall_mem_cons.mpr ⟨tw_47, List.forall_mem_cons.mpr ⟨tw_48, List.forall_mem_cons.mpr ⟨tw_49, List.forall_mem_cons.mpr ⟨tw_50, List.forall_mem_cons.mpr ⟨tw_51, List.forall_mem_cons.mpr ⟨tw_52, List.forall_mem_cons.mpr ⟨tw_53, List.forall_mem_cons.mpr ⟨tw_54, List.forall_mem_cons.mpr ⟨tw_55, List.forall_mem_cons.mpr ⟨tw_56, List.forall_mem_cons.mpr ⟨tw_57, List.forall_mem_cons.mpr ⟨tw_58, List.forall_mem_cons.mpr ⟨tw_59, List.forall_mem_cons.mpr ⟨tw_60, List.forall_mem_cons.mpr ⟨tw_61, List.forall_mem_cons.mpr ⟨tw_62, List.forall_mem_cons.mpr ⟨tw_63, List.forall_mem_cons.mpr ⟨tw_64, List.forall_mem_cons.mpr ⟨tw_65, List.forall_mem_cons.mpr ⟨tw_66, List.forall_mem_cons.mpr ⟨tw_67, List.forall_mem_cons.mpr ⟨tw_68, List.forall_mem_cons.mpr ⟨tw_69, List.forall_mem_cons.mpr ⟨tw_70, List.forall_mem_cons.mpr ⟨tw_71, List.forall_mem_cons.mpr ⟨tw_72, List.forall_mem_cons.mpr ⟨tw_73, List.forall_mem_cons.mpr ⟨tw_74, List.forall_mem_cons.mpr ⟨tw_75, List.forall_mem_cons.mpr ⟨tw_76, List.forall_mem_cons.mpr ⟨tw_77, List.forall_mem_cons.mpr ⟨tw_78, List.forall_mem_cons.mpr ⟨tw_79, List.forall_mem_cons.mpr ⟨tw_80, List.forall_mem_cons.mpr ⟨tw_81, List.forall_mem_cons.mpr ⟨tw_82, List.forall_mem_cons.mpr ⟨tw_83, List.forall_mem_cons.mpr ⟨tw_84, fun _ h => absurd h List.not_mem_nil⟩⟩⟩⟩⟩⟩⟩⟩⟩⟩⟩⟩⟩⟩⟩⟩⟩⟩⟩⟩⟩⟩⟩⟩⟩⟩⟩⟩⟩⟩⟩⟩⟩⟩⟩⟩⟩⟩⟩⟩⟩⟩⟩
theorem mX6_isDown : MV yX6_isDown RX6 cX6_isDown 2 (some .boolean) 1 := ⟨tw_86, tw_87, tw_88, tw_89, by decide +kernel⟩
theorem mX6_standing : MV yX6_standing RX6 cX6_standing 3 (some .int) 0 := ⟨tw_92, tw_93, tw_94, tw_89, by decide +kernel⟩
theorem mX8_wayRound : MS yX8_wayRound cX8_wayRound 3 (some .int) 2 := ⟨tw_102, tw_103, tw_104, by decide +kernel⟩
theorem mX6_areBeside : MV yX6_areBeside RX6 cX6_areBeside 3 (some .boolean) 2 := ⟨tw_105, tw_106, tw_107, tw_89, by decide +kernel⟩
theorem mX6_copyFrom : MV yX6_copyFrom RX6 cX6_copyFrom 2 none 1 := ⟨tw_117, tw_118, tw_119, tw_89, by decide +kernel⟩
theorem mX2_copyFrom : MV yX2_copyFrom RX2 cX2_copyFrom 2 none 1 := ⟨tw_126, tw_127, tw_128, tw_129, by decide +kernel⟩
