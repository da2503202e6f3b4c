-- LINKS: by program (wip/whole/gen/gen2.py)
theorem zTm (i : Nat) {w : Cond} (h : lw_tbl[i]? = some w) (g : goodWord w = true) : w ∈ zT := List.mem_filter.mpr ⟨List.mem_of_getElem? h, g⟩
theorem tw_0 : (Jvm.Cond.selects "RegretLocks" (⟨"RegretLocks", "isOne", "(I)Z"⟩ : Jvm.MethodName) (⟨"RegretLocks", "isOne", "(I)Z"⟩ : Jvm.MethodName)) ∈ zT := zTm 0 (by decide +kernel) rfl
theorem tw_1 : (Jvm.Cond.selects "RegretLocks" (⟨"RegretLocks", "isLock", "(I)Z"⟩ : Jvm.MethodName) (⟨"RegretLocks", "isLock", "(I)Z"⟩ : Jvm.MethodName)) ∈ zT := zTm 1 (by decide +kernel) rfl
theorem tw_2 : (Jvm.Cond.selects "RegretLocks$Town" (⟨"RegretLocks$Town", "tryFalsely", "(LRegretLocks$Person;)V"⟩ : Jvm.MethodName) (⟨"RegretLocks$Town", "tryFalsely", "(LRegretLocks$Person;)V"⟩ : Jvm.MethodName)) ∈ zT := zTm 2 (by decide +kernel) rfl
theorem tw_3 : (Jvm.Cond.selects "RegretLocks$Town" (⟨"RegretLocks$Town", "goOn", "(LRegretLocks$Person;)V"⟩ : Jvm.MethodName) (⟨"RegretLocks$Town", "goOn", "(LRegretLocks$Person;)V"⟩ : Jvm.MethodName)) ∈ zT := zTm 3 (by decide +kernel) rfl
theorem tw_4 : (Jvm.Cond.selects "RegretLocks$Town" (⟨"RegretLocks$Town", "sufferDeed", "()V"⟩ : Jvm.MethodName) (⟨"RegretLocks$Town", "sufferDeed", "()V"⟩ : Jvm.MethodName)) ∈ zT := zTm 4 (by decide +kernel) rfl
theorem tw_5 : (Jvm.Cond.selects "RegretLocks$Town" (⟨"RegretLocks$Town", "sufferPardon", "()V"⟩ : Jvm.MethodName) (⟨"RegretLocks$Town", "sufferPardon", "()V"⟩ : Jvm.MethodName)) ∈ zT := zTm 5 (by decide +kernel) rfl
theorem tw_6 : (Jvm.Cond.selects "RegretLocks$Town" (⟨"RegretLocks$Town", "mendAll", "()V"⟩ : Jvm.MethodName) (⟨"RegretLocks$Town", "mendAll", "()V"⟩ : Jvm.MethodName)) ∈ zT := zTm 6 (by decide +kernel) rfl
theorem tw_7 : (Jvm.Cond.selects "RegretLocks$Ways" (⟨"RegretLocks$Ways", "wearAll", "(LRegretLocks$Town;LRegretLocks$Person;Z)V"⟩ : Jvm.MethodName) (⟨"RegretLocks$Ways", "wearAll", "(LRegretLocks$Town;LRegretLocks$Person;Z)V"⟩ : Jvm.MethodName)) ∈ zT := zTm 7 (by decide +kernel) rfl
theorem tw_8 : (Jvm.Cond.selects "RegretLocks$Ways" (⟨"RegretLocks$Ways", "goOnFrom", "(LRegretLocks$Town;I)V"⟩ : Jvm.MethodName) (⟨"RegretLocks$Ways", "goOnFrom", "(LRegretLocks$Town;I)V"⟩ : Jvm.MethodName)) ∈ zT := zTm 8 (by decide +kernel) rfl
theorem tw_9 : (Jvm.Cond.selects "RegretLocks" (⟨"RegretLocks", "entriesThought", "(I)I"⟩ : Jvm.MethodName) (⟨"RegretLocks", "entriesThought", "(I)I"⟩ : Jvm.MethodName)) ∈ zT := zTm 9 (by decide +kernel) rfl
theorem tw_10 : (Jvm.Cond.selects "RegretLocks" (⟨"RegretLocks", "countHits", "(LRegretLocks$Sheet;)V"⟩ : Jvm.MethodName) (⟨"RegretLocks", "countHits", "(LRegretLocks$Sheet;)V"⟩ : Jvm.MethodName)) ∈ zT := zTm 10 (by decide +kernel) rfl
theorem tw_11 : (Jvm.Cond.selects "RegretLocks" (⟨"RegretLocks", "feedFour", "(I)V"⟩ : Jvm.MethodName) (⟨"RegretLocks", "feedFour", "(I)V"⟩ : Jvm.MethodName)) ∈ zT := zTm 11 (by decide +kernel) rfl
theorem tw_12 : (Jvm.Cond.selects "RegretLocks$Parser" (⟨"RegretLocks$Parser", "begin", "([BI)V"⟩ : Jvm.MethodName) (⟨"RegretLocks$Parser", "begin", "([BI)V"⟩ : Jvm.MethodName)) ∈ zT := zTm 12 (by decide +kernel) rfl
theorem tw_13 : (Jvm.Cond.selects "RegretLocks$Parser" (⟨"RegretLocks$Parser", "next", "()V"⟩ : Jvm.MethodName) (⟨"RegretLocks$Parser", "next", "()V"⟩ : Jvm.MethodName)) ∈ zT := zTm 13 (by decide +kernel) rfl
theorem tw_14 : (Jvm.Cond.selects "RegretLocks$Parser" (⟨"RegretLocks$Parser", "sortAt", "(I)I"⟩ : Jvm.MethodName) (⟨"RegretLocks$Parser", "sortAt", "(I)I"⟩ : Jvm.MethodName)) ∈ zT := zTm 14 (by decide +kernel) rfl
theorem tw_15 : (Jvm.Cond.selects "RegretLocks$Parser" (⟨"RegretLocks$Parser", "keyAtHand", "()I"⟩ : Jvm.MethodName) (⟨"RegretLocks$Parser", "keyAtHand", "()I"⟩ : Jvm.MethodName)) ∈ zT := zTm 15 (by decide +kernel) rfl
theorem tw_16 : (Jvm.Cond.selects "RegretLocks$Parser" (⟨"RegretLocks$Parser", "isAtHand", "(Ljava/lang/String;)Z"⟩ : Jvm.MethodName) (⟨"RegretLocks$Parser", "isAtHand", "(Ljava/lang/String;)Z"⟩ : Jvm.MethodName)) ∈ zT := zTm 16 (by decide +kernel) rfl
theorem tw_17 : (Jvm.Cond.selects "RegretLocks$Parser" (⟨"RegretLocks$Parser", "takesPiece", "()Z"⟩ : Jvm.MethodName) (⟨"RegretLocks$Parser", "takesPiece", "()Z"⟩ : Jvm.MethodName)) ∈ zT := zTm 17 (by decide +kernel) rfl
theorem tw_18 : (Jvm.Cond.selects "RegretLocks$Parser" (⟨"RegretLocks$Parser", "takesNumber", "()Z"⟩ : Jvm.MethodName) (⟨"RegretLocks$Parser", "takesNumber", "()Z"⟩ : Jvm.MethodName)) ∈ zT := zTm 18 (by decide +kernel) rfl
theorem tw_19 : (Jvm.Cond.selects "RegretLocks$Parser" (⟨"RegretLocks$Parser", "write", "(I)V"⟩ : Jvm.MethodName) (⟨"RegretLocks$Parser", "write", "(I)V"⟩ : Jvm.MethodName)) ∈ zT := zTm 19 (by decide +kernel) rfl
theorem tw_20 : (Jvm.Cond.selects "RegretLocks$Parser" (⟨"RegretLocks$Parser", "closeNots", "()V"⟩ : Jvm.MethodName) (⟨"RegretLocks$Parser", "closeNots", "()V"⟩ : Jvm.MethodName)) ∈ zT := zTm 20 (by decide +kernel) rfl
theorem tw_21 : (Jvm.Cond.selects "RegretLocks$Parser" (⟨"RegretLocks$Parser", "takesName", "()Z"⟩ : Jvm.MethodName) (⟨"RegretLocks$Parser", "takesName", "()Z"⟩ : Jvm.MethodName)) ∈ zT := zTm 21 (by decide +kernel) rfl
theorem tw_22 : (Jvm.Cond.selects "RegretLocks$Parser" (⟨"RegretLocks$Parser", "opens", "(B)Z"⟩ : Jvm.MethodName) (⟨"RegretLocks$Parser", "opens", "(B)Z"⟩ : Jvm.MethodName)) ∈ zT := zTm 22 (by decide +kernel) rfl
theorem tw_23 : (Jvm.Cond.selects "RegretLocks$Parser" (⟨"RegretLocks$Parser", "putOff", "(I)V"⟩ : Jvm.MethodName) (⟨"RegretLocks$Parser", "putOff", "(I)V"⟩ : Jvm.MethodName)) ∈ zT := zTm 23 (by decide +kernel) rfl
theorem tw_24 : (Jvm.Cond.selects "RegretLocks$Parser" (⟨"RegretLocks$Parser", "takesSign", "()Z"⟩ : Jvm.MethodName) (⟨"RegretLocks$Parser", "takesSign", "()Z"⟩ : Jvm.MethodName)) ∈ zT := zTm 24 (by decide +kernel) rfl
theorem tw_25 : (Jvm.Cond.selects "RegretLocks$Parser" (⟨"RegretLocks$Parser", "closesBracket", "()Z"⟩ : Jvm.MethodName) (⟨"RegretLocks$Parser", "closesBracket", "()Z"⟩ : Jvm.MethodName)) ∈ zT := zTm 25 (by decide +kernel) rfl
theorem tw_26 : (Jvm.Cond.selects "RegretLocks$Parser" (⟨"RegretLocks$Parser", "closeDownTo", "(I)V"⟩ : Jvm.MethodName) (⟨"RegretLocks$Parser", "closeDownTo", "(I)V"⟩ : Jvm.MethodName)) ∈ zT := zTm 26 (by decide +kernel) rfl
theorem tw_27 : (Jvm.Cond.selects "RegretLocksModel" (⟨"RegretLocksModel", "comes", "(IIIII)V"⟩ : Jvm.MethodName) (⟨"RegretLocksModel", "comes", "(IIIII)V"⟩ : Jvm.MethodName)) ∈ zT := zTm 27 (by decide +kernel) rfl
theorem tw_28 : (Jvm.Cond.selects "RegretLocksModel" (⟨"RegretLocksModel", "gives", "(III)V"⟩ : Jvm.MethodName) (⟨"RegretLocksModel", "gives", "(III)V"⟩ : Jvm.MethodName)) ∈ zT := zTm 28 (by decide +kernel) rfl
theorem tw_29 : (Jvm.Cond.selects "RegretLocksModel" (⟨"RegretLocksModel", "isOne", "(I)Z"⟩ : Jvm.MethodName) (⟨"RegretLocksModel", "isOne", "(I)Z"⟩ : Jvm.MethodName)) ∈ zT := zTm 29 (by decide +kernel) rfl
theorem tw_30 : (Jvm.Cond.selects "RegretLocksModel" (⟨"RegretLocksModel", "of", "(II)I"⟩ : Jvm.MethodName) (⟨"RegretLocksModel", "of", "(II)I"⟩ : Jvm.MethodName)) ∈ zT := zTm 30 (by decide +kernel) rfl
theorem tw_31 : (Jvm.Cond.selects "RegretLocksModel" (⟨"RegretLocksModel", "worth", "(I)I"⟩ : Jvm.MethodName) (⟨"RegretLocksModel", "worth", "(I)I"⟩ : Jvm.MethodName)) ∈ zT := zTm 31 (by decide +kernel) rfl
theorem tw_32 : (Jvm.Cond.selects "RegretLocksModel" (⟨"RegretLocksModel", "regrets", "(I)I"⟩ : Jvm.MethodName) (⟨"RegretLocksModel", "regrets", "(I)I"⟩ : Jvm.MethodName)) ∈ zT := zTm 32 (by decide +kernel) rfl
theorem tw_33 : (Jvm.Cond.selects "RegretLocksModel" (⟨"RegretLocksModel", "changes", "(II)I"⟩ : Jvm.MethodName) (⟨"RegretLocksModel", "changes", "(II)I"⟩ : Jvm.MethodName)) ∈ zT := zTm 33 (by decide +kernel) rfl
theorem tw_34 : (Jvm.Cond.selects "RegretLocksModel" (⟨"RegretLocksModel", "isLock", "(I)Z"⟩ : Jvm.MethodName) (⟨"RegretLocksModel", "isLock", "(I)Z"⟩ : Jvm.MethodName)) ∈ zT := zTm 34 (by decide +kernel) rfl
theorem tw_35 : (Jvm.Cond.selects "RegretLocksModel" (⟨"RegretLocksModel", "lockOf", "(II)I"⟩ : Jvm.MethodName) (⟨"RegretLocksModel", "lockOf", "(II)I"⟩ : Jvm.MethodName)) ∈ zT := zTm 35 (by decide +kernel) rfl
theorem tw_36 : (Jvm.Cond.selects "RegretLocksModel" (⟨"RegretLocksModel", "isOpen", "(II)Z"⟩ : Jvm.MethodName) (⟨"RegretLocksModel", "isOpen", "(II)Z"⟩ : Jvm.MethodName)) ∈ zT := zTm 36 (by decide +kernel) rfl
theorem tw_37 : (Jvm.Cond.selects "RegretLocksModel" (⟨"RegretLocksModel", "drawn", "()I"⟩ : Jvm.MethodName) (⟨"RegretLocksModel", "drawn", "()I"⟩ : Jvm.MethodName)) ∈ zT := zTm 37 (by decide +kernel) rfl
theorem tw_38 : (Jvm.Cond.selects "RegretLocksModel" (⟨"RegretLocksModel", "goesThrough", "(II)V"⟩ : Jvm.MethodName) (⟨"RegretLocksModel", "goesThrough", "(II)V"⟩ : Jvm.MethodName)) ∈ zT := zTm 38 (by decide +kernel) rfl
theorem tw_39 : (Jvm.Cond.selects "RegretLocksModel" (⟨"RegretLocksModel", "worn", "(III)I"⟩ : Jvm.MethodName) (⟨"RegretLocksModel", "worn", "(III)I"⟩ : Jvm.MethodName)) ∈ zT := zTm 39 (by decide +kernel) rfl
theorem tw_40 : (Jvm.Cond.selects "RegretLocksModel" (⟨"RegretLocksModel", "wears", "(III)I"⟩ : Jvm.MethodName) (⟨"RegretLocksModel", "wears", "(III)I"⟩ : Jvm.MethodName)) ∈ zT := zTm 40 (by decide +kernel) rfl
theorem tw_41 : (Jvm.Cond.selects "RegretLocksModel" (⟨"RegretLocksModel", "counts", "(I)I"⟩ : Jvm.MethodName) (⟨"RegretLocksModel", "counts", "(I)I"⟩ : Jvm.MethodName)) ∈ zT := zTm 41 (by decide +kernel) rfl
theorem tw_42 : (Jvm.Cond.selects "RegretLocksModel" (⟨"RegretLocksModel", "textAt", "(I)I"⟩ : Jvm.MethodName) (⟨"RegretLocksModel", "textAt", "(I)I"⟩ : Jvm.MethodName)) ∈ zT := zTm 42 (by decide +kernel) rfl
theorem tw_43 : (Jvm.Cond.selects "RegretLocksModel" (⟨"RegretLocksModel", "worked", "(I)I"⟩ : Jvm.MethodName) (⟨"RegretLocksModel", "worked", "(I)I"⟩ : Jvm.MethodName)) ∈ zT := zTm 43 (by decide +kernel) rfl
theorem tw_44 : (Jvm.Cond.selects "RegretLocksModel" (⟨"RegretLocksModel", "goesOnMany", "(I)V"⟩ : Jvm.MethodName) (⟨"RegretLocksModel", "goesOnMany", "(I)V"⟩ : Jvm.MethodName)) ∈ zT := zTm 44 (by decide +kernel) rfl
theorem tw_45 : (Jvm.Cond.selects "RegretLocksModel" (⟨"RegretLocksModel", "goesOn", "()V"⟩ : Jvm.MethodName) (⟨"RegretLocksModel", "goesOn", "()V"⟩ : Jvm.MethodName)) ∈ zT := zTm 45 (by decide +kernel) rfl
theorem tw_46 : (Jvm.Cond.selects "RegretLocksModel" (⟨"RegretLocksModel", "tries", "(I)V"⟩ : Jvm.MethodName) (⟨"RegretLocksModel", "tries", "(I)V"⟩ : Jvm.MethodName)) ∈ zT := zTm 46 (by decide +kernel) rfl
theorem tw_47 : (Jvm.Cond.selects "RegretLocksModel" (⟨"RegretLocksModel", "more", "(III)V"⟩ : Jvm.MethodName) (⟨"RegretLocksModel", "more", "(III)V"⟩ : Jvm.MethodName)) ∈ zT := zTm 47 (by decide +kernel) rfl
theorem tw_48 : (Jvm.Cond.selects "RegretLocksModel" (⟨"RegretLocksModel", "halves", "(I)V"⟩ : Jvm.MethodName) (⟨"RegretLocksModel", "halves", "(I)V"⟩ : Jvm.MethodName)) ∈ zT := zTm 48 (by decide +kernel) rfl
theorem tw_49 : (Jvm.Cond.selects "RegretLocksModel" (⟨"RegretLocksModel", "regretsOfAll", "()I"⟩ : Jvm.MethodName) (⟨"RegretLocksModel", "regretsOfAll", "()I"⟩ : Jvm.MethodName)) ∈ zT := zTm 49 (by decide +kernel) rfl
theorem tw_50 : (Jvm.Cond.selects "RegretLocksModel" (⟨"RegretLocksModel", "reached", "(I)I"⟩ : Jvm.MethodName) (⟨"RegretLocksModel", "reached", "(I)I"⟩ : Jvm.MethodName)) ∈ zT := zTm 50 (by decide +kernel) rfl
theorem tw_51 : (Jvm.Cond.selects "RegretLocksModel" (⟨"RegretLocksModel", "findRooms", "(I)V"⟩ : Jvm.MethodName) (⟨"RegretLocksModel", "findRooms", "(I)V"⟩ : Jvm.MethodName)) ∈ zT := zTm 51 (by decide +kernel) rfl
theorem tw_52 : (Jvm.Cond.selects "RegretLocksModel" (⟨"RegretLocksModel", "laysBy", "()V"⟩ : Jvm.MethodName) (⟨"RegretLocksModel", "laysBy", "()V"⟩ : Jvm.MethodName)) ∈ zT := zTm 52 (by decide +kernel) rfl
theorem tw_53 : (Jvm.Cond.selects "RegretLocksModel" (⟨"RegretLocksModel", "laysBack", "()V"⟩ : Jvm.MethodName) (⟨"RegretLocksModel", "laysBack", "()V"⟩ : Jvm.MethodName)) ∈ zT := zTm 53 (by decide +kernel) rfl
theorem tw_54 : (Jvm.Cond.selects "RegretLocksModel" (⟨"RegretLocksModel", "parse", "()I"⟩ : Jvm.MethodName) (⟨"RegretLocksModel", "parse", "()I"⟩ : Jvm.MethodName)) ∈ zT := zTm 54 (by decide +kernel) rfl
theorem tw_55 : (Jvm.Cond.selects "RegretLocksModel" (⟨"RegretLocksModel", "nextToken", "()V"⟩ : Jvm.MethodName) (⟨"RegretLocksModel", "nextToken", "()V"⟩ : Jvm.MethodName)) ∈ zT := zTm 55 (by decide +kernel) rfl
theorem tw_56 : (Jvm.Cond.selects "RegretLocksModel" (⟨"RegretLocksModel", "isLetter", "(I)Z"⟩ : Jvm.MethodName) (⟨"RegretLocksModel", "isLetter", "(I)Z"⟩ : Jvm.MethodName)) ∈ zT := zTm 56 (by decide +kernel) rfl
theorem tw_57 : (Jvm.Cond.selects "RegretLocksModel" (⟨"RegretLocksModel", "isDigit", "(I)Z"⟩ : Jvm.MethodName) (⟨"RegretLocksModel", "isDigit", "(I)Z"⟩ : Jvm.MethodName)) ∈ zT := zTm 57 (by decide +kernel) rfl
theorem tw_58 : (Jvm.Cond.selects "RegretLocksModel" (⟨"RegretLocksModel", "key", "()I"⟩ : Jvm.MethodName) (⟨"RegretLocksModel", "key", "()I"⟩ : Jvm.MethodName)) ∈ zT := zTm 58 (by decide +kernel) rfl
theorem tw_59 : (Jvm.Cond.selects "RegretLocksModel" (⟨"RegretLocksModel", "isWordAt", "(IIII)Z"⟩ : Jvm.MethodName) (⟨"RegretLocksModel", "isWordAt", "(IIII)Z"⟩ : Jvm.MethodName)) ∈ zT := zTm 59 (by decide +kernel) rfl
theorem tw_60 : (Jvm.Cond.selects "RegretLocksModel" (⟨"RegretLocksModel", "either", "(I)Z"⟩ : Jvm.MethodName) (⟨"RegretLocksModel", "either", "(I)Z"⟩ : Jvm.MethodName)) ∈ zT := zTm 60 (by decide +kernel) rfl
theorem tw_61 : (Jvm.Cond.selects "RegretLocksModel" (⟨"RegretLocksModel", "both", "(I)Z"⟩ : Jvm.MethodName) (⟨"RegretLocksModel", "both", "(I)Z"⟩ : Jvm.MethodName)) ∈ zT := zTm 61 (by decide +kernel) rfl
theorem tw_62 : (Jvm.Cond.selects "RegretLocksModel" (⟨"RegretLocksModel", "test", "(I)Z"⟩ : Jvm.MethodName) (⟨"RegretLocksModel", "test", "(I)Z"⟩ : Jvm.MethodName)) ∈ zT := zTm 62 (by decide +kernel) rfl
theorem tw_63 : (Jvm.Cond.selects "RegretLocksModel" (⟨"RegretLocksModel", "sum", "(I)Z"⟩ : Jvm.MethodName) (⟨"RegretLocksModel", "sum", "(I)Z"⟩ : Jvm.MethodName)) ∈ zT := zTm 63 (by decide +kernel) rfl
theorem tw_64 : (Jvm.Cond.selects "RegretLocksModel" (⟨"RegretLocksModel", "term", "(I)Z"⟩ : Jvm.MethodName) (⟨"RegretLocksModel", "term", "(I)Z"⟩ : Jvm.MethodName)) ∈ zT := zTm 64 (by decide +kernel) rfl
theorem tw_65 : (Jvm.Cond.selects "RegretLocksModel" (⟨"RegretLocksModel", "part0", "(I)Z"⟩ : Jvm.MethodName) (⟨"RegretLocksModel", "part0", "(I)Z"⟩ : Jvm.MethodName)) ∈ zT := zTm 65 (by decide +kernel) rfl
theorem tw_66 : (Jvm.Cond.selects "RegretLocksModel" (⟨"RegretLocksModel", "step", "(II)V"⟩ : Jvm.MethodName) (⟨"RegretLocksModel", "step", "(II)V"⟩ : Jvm.MethodName)) ∈ zT := zTm 66 (by decide +kernel) rfl
theorem tw_67 : (Jvm.Cond.selects "RegretLocksModel" (⟨"RegretLocksModel", "isSign", "(I)Z"⟩ : Jvm.MethodName) (⟨"RegretLocksModel", "isSign", "(I)Z"⟩ : Jvm.MethodName)) ∈ zT := zTm 67 (by decide +kernel) rfl
theorem tw_68 : (Jvm.Cond.selects "RegretLocksModel" (⟨"RegretLocksModel", "isText", "(I)Z"⟩ : Jvm.MethodName) (⟨"RegretLocksModel", "isText", "(I)Z"⟩ : Jvm.MethodName)) ∈ zT := zTm 68 (by decide +kernel) rfl
theorem tw_69 : (Jvm.Cond.selects "RegretLocksModel" (⟨"RegretLocksModel", "likeOnes", "(II)I"⟩ : Jvm.MethodName) (⟨"RegretLocksModel", "likeOnes", "(II)I"⟩ : Jvm.MethodName)) ∈ zT := zTm 69 (by decide +kernel) rfl
theorem tw_70 : (Jvm.Cond.selects "RegretLocksModel" (⟨"RegretLocksModel", "setAside", "([I[I)V"⟩ : Jvm.MethodName) (⟨"RegretLocksModel", "setAside", "([I[I)V"⟩ : Jvm.MethodName)) ∈ zT := zTm 70 (by decide +kernel) rfl
theorem tw_72 : (Jvm.Cond.initialized "RegretLocks") ∈ zT := zTm 72 (by decide +kernel) rfl
theorem tw_73 : (Jvm.Cond.initialized "RegretLocks$Town") ∈ zT := zTm 73 (by decide +kernel) rfl
theorem tw_74 : (Jvm.Cond.initialized "RegretLocks$Person") ∈ zT := zTm 74 (by decide +kernel) rfl
theorem tw_75 : (Jvm.Cond.initialized "RegretLocks$Lock") ∈ zT := zTm 75 (by decide +kernel) rfl
theorem tw_76 : (Jvm.Cond.initialized "RegretLocks$Ways") ∈ zT := zTm 76 (by decide +kernel) rfl
theorem tw_77 : (Jvm.Cond.initialized "RegretLocks$Parser") ∈ zT := zTm 77 (by decide +kernel) rfl
theorem tw_78 : (Jvm.Cond.initialized "RegretLocks$Sheet") ∈ zT := zTm 78 (by decide +kernel) rfl
theorem tw_79 : (Jvm.Cond.initialized "RegretLocks$Slot") ∈ zT := zTm 79 (by decide +kernel) rfl
theorem tw_80 : (Jvm.Cond.initialized "RegretLocksModel") ∈ zT := zTm 80 (by decide +kernel) rfl
theorem tw_81 : (Jvm.Cond.initialized "RegretLocks$Kinds") ∈ zT := zTm 81 (by decide +kernel) rfl
theorem tw_82 : (Jvm.Cond.initialized "java/lang/Math") ∈ zT := zTm 82 (by decide +kernel) rfl
theorem tw_83 : (Jvm.Cond.initialized "RegretLocks$Text") ∈ zT := zTm 83 (by decide +kernel) rfl
theorem tw_84 : (Jvm.Cond.initialized "java/util/Arrays") ∈ zT := zTm 84 (by decide +kernel) rfl
theorem tw_85 : (Jvm.Cond.initialized "java/lang/String") ∈ zT := zTm 85 (by decide +kernel) rfl
theorem tw_86 : (Jvm.Cond.initialized "java/lang/StringLatin1") ∈ zT := zTm 86 (by decide +kernel) rfl
theorem tw_87 : (Jvm.Cond.initialized "jdk/internal/util/Preconditions") ∈ zT := zTm 87 (by decide +kernel) rfl
theorem tw_88 : (Jvm.Cond.initialized "java/lang/StringUTF16") ∈ zT := zTm 88 (by decide +kernel) rfl
theorem tw_89 : (Jvm.Cond.initialized "java/lang/Character") ∈ zT := zTm 89 (by decide +kernel) rfl
theorem tw_91 : (Jvm.Cond.classLink "RegretLocksLaw" (7 : Nat) "RegretLocks") ∈ zT := zTm 91 (by decide +kernel) rfl
theorem tw_92 : (Jvm.Cond.instantiable "RegretLocks" (13 : Nat)) ∈ zT := zTm 92 (by decide +kernel) rfl
theorem tw_93 : (Jvm.Cond.methodLink "RegretLocksLaw" (9 : Nat) ({ cls := "RegretLocks", name := "<init>", desc := "()V" } : Jvm.MethodName)) ∈ zT := zTm 93 (by decide +kernel) rfl
theorem tw_94 : (Jvm.Cond.instanceMethod ({ cls := "RegretLocks", name := "<init>", desc := "()V" } : Jvm.MethodName)) ∈ zT := zTm 94 (by decide +kernel) rfl
theorem tw_95 : (Jvm.Cond.code ({ cls := "RegretLocks", name := "<init>", desc := "()V" } : Jvm.MethodName) prog_1_method_1_code (2 : Nat) (Option.none : Option Jvm.ClassFile.FieldType)) ∈ zT := zTm 95 (by decide +kernel) rfl
theorem tw_96 : (Jvm.Cond.methodLink "RegretLocks" (1 : Nat) ({ cls := "java/lang/Object", name := "<init>", desc := "()V" } : Jvm.MethodName)) ∈ zT := zTm 96 (by decide +kernel) rfl
theorem tw_97 : (Jvm.Cond.instanceMethod ({ cls := "java/lang/Object", name := "<init>", desc := "()V" } : Jvm.MethodName)) ∈ zT := zTm 97 (by decide +kernel) rfl
theorem tw_98 : (Jvm.Cond.code ({ cls := "java/lang/Object", name := "<init>", desc := "()V" } : Jvm.MethodName) object_method_1_code (1 : Nat) (Option.none : Option Jvm.ClassFile.FieldType)) ∈ zT := zTm 98 (by decide +kernel) rfl
theorem tw_99 : (Jvm.Cond.classLink "RegretLocks" (7 : Nat) "RegretLocks$Town") ∈ zT := zTm 99 (by decide +kernel) rfl
theorem tw_100 : (Jvm.Cond.instantiable "RegretLocks$Town" (14 : Nat)) ∈ zT := zTm 100 (by decide +kernel) rfl
theorem tw_101 : (Jvm.Cond.methodLink "RegretLocks" (9 : Nat) ({ cls := "RegretLocks$Town", name := "<init>", desc := "()V" } : Jvm.MethodName)) ∈ zT := zTm 101 (by decide +kernel) rfl
theorem tw_102 : (Jvm.Cond.instanceMethod ({ cls := "RegretLocks$Town", name := "<init>", desc := "()V" } : Jvm.MethodName)) ∈ zT := zTm 102 (by decide +kernel) rfl
theorem tw_103 : (Jvm.Cond.code ({ cls := "RegretLocks$Town", name := "<init>", desc := "()V" } : Jvm.MethodName) prog_9_method_1_code (2 : Nat) (Option.none : Option Jvm.ClassFile.FieldType)) ∈ zT := zTm 103 (by decide +kernel) rfl
theorem tw_104 : (Jvm.Cond.methodLink "RegretLocks$Town" (3 : Nat) ({ cls := "java/lang/Object", name := "<init>", desc := "()V" } : Jvm.MethodName)) ∈ zT := zTm 104 (by decide +kernel) rfl
theorem tw_105 : (Jvm.Cond.classLink "RegretLocks$Town" (9 : Nat) "RegretLocks$Person") ∈ zT := zTm 105 (by decide +kernel) rfl
theorem tw_107 : (Jvm.Cond.classLink "RegretLocks$Town" (17 : Nat) "RegretLocks$Lock") ∈ zT := zTm 107 (by decide +kernel) rfl
theorem tw_109 : (Jvm.Cond.classLink "RegretLocks$Town" (23 : Nat) "RegretLocks$Text") ∈ zT := zTm 109 (by decide +kernel) rfl
theorem tw_111 : (Jvm.Cond.instantiable "RegretLocks$Person" (3 : Nat)) ∈ zT := zTm 111 (by decide +kernel) rfl
theorem tw_114 : (Jvm.Cond.code ({ cls := "RegretLocks$Person", name := "<init>", desc := "()V" } : Jvm.MethodName) prog_5_method_1_code (1 : Nat) (Option.none : Option Jvm.ClassFile.FieldType)) ∈ zT := zTm 114 (by decide +kernel) rfl
theorem tw_115 : (Jvm.Cond.methodLink "RegretLocks$Person" (3 : Nat) ({ cls := "java/lang/Object", name := "<init>", desc := "()V" } : Jvm.MethodName)) ∈ zT := zTm 115 (by decide +kernel) rfl
theorem tw_116 : (Jvm.Cond.fieldLink "RegretLocks$Person" (15 : Nat) "RegretLocks$Person" "kind" "I") ∈ zT := zTm 116 (by decide +kernel) rfl
theorem tw_117 : (Jvm.Cond.fieldLink "RegretLocks" (90 : Nat) "RegretLocks$Person" "kind" "I") ∈ zT := zTm 117 (by decide +kernel) rfl
theorem tw_118 : (Jvm.Cond.fieldLink "RegretLocks$Ways" (50 : Nat) "RegretLocks$Person" "kind" "I") ∈ zT := zTm 118 (by decide +kernel) rfl
theorem tw_119 : (Jvm.Cond.fieldLink "RegretLocks$Town" (83 : Nat) "RegretLocks$Person" "kind" "I") ∈ zT := zTm 119 (by decide +kernel) rfl
theorem tw_120 : (Jvm.Cond.fieldLink "RegretLocks$Person" (19 : Nat) "RegretLocks$Person" "room" "I") ∈ zT := zTm 120 (by decide +kernel) rfl
theorem tw_121 : (Jvm.Cond.fieldLink "RegretLocks$Ways" (37 : Nat) "RegretLocks$Person" "room" "I") ∈ zT := zTm 121 (by decide +kernel) rfl
theorem tw_122 : (Jvm.Cond.fieldLink "RegretLocks" (93 : Nat) "RegretLocks$Person" "room" "I") ∈ zT := zTm 122 (by decide +kernel) rfl
theorem tw_123 : (Jvm.Cond.fieldLink "RegretLocks$Town" (104 : Nat) "RegretLocks$Person" "room" "I") ∈ zT := zTm 123 (by decide +kernel) rfl
theorem tw_124 : (Jvm.Cond.fieldLink "RegretLocks$Person" (9 : Nat) "RegretLocks$Person" "regrets" "[I") ∈ zT := zTm 124 (by decide +kernel) rfl
theorem tw_125 : (Jvm.Cond.fieldLink "RegretLocks" (96 : Nat) "RegretLocks$Person" "regrets" "[I") ∈ zT := zTm 125 (by decide +kernel) rfl
theorem tw_126 : (Jvm.Cond.fieldLink "RegretLocks$Ways" (47 : Nat) "RegretLocks$Person" "regrets" "[I") ∈ zT := zTm 126 (by decide +kernel) rfl
theorem tw_127 : (Jvm.Cond.fieldLink "RegretLocks$Town" (123 : Nat) "RegretLocks$Person" "regrets" "[I") ∈ zT := zTm 127 (by decide +kernel) rfl
theorem tw_135 : (Jvm.Cond.arrayClass Jvm.ClassFile.FieldType.int) ∈ zT := zTm 135 (by decide +kernel) rfl
theorem tw_136 : (Jvm.Cond.instantiable "RegretLocks$Lock" (5 : Nat)) ∈ zT := zTm 136 (by decide +kernel) rfl
theorem tw_139 : (Jvm.Cond.code ({ cls := "RegretLocks$Lock", name := "<init>", desc := "()V" } : Jvm.MethodName) prog_3_method_1_code (1 : Nat) (Option.none : Option Jvm.ClassFile.FieldType)) ∈ zT := zTm 139 (by decide +kernel) rfl
theorem tw_140 : (Jvm.Cond.methodLink "RegretLocks$Lock" (1 : Nat) ({ cls := "java/lang/Object", name := "<init>", desc := "()V" } : Jvm.MethodName)) ∈ zT := zTm 140 (by decide +kernel) rfl
theorem tw_141 : (Jvm.Cond.fieldLink "RegretLocks$Lock" (7 : Nat) "RegretLocks$Lock" "from" "I") ∈ zT := zTm 141 (by decide +kernel) rfl
theorem tw_142 : (Jvm.Cond.fieldLink "RegretLocks$Ways" (87 : Nat) "RegretLocks$Lock" "from" "I") ∈ zT := zTm 142 (by decide +kernel) rfl
theorem tw_143 : (Jvm.Cond.fieldLink "RegretLocks$Town" (101 : Nat) "RegretLocks$Lock" "from" "I") ∈ zT := zTm 143 (by decide +kernel) rfl
theorem tw_144 : (Jvm.Cond.fieldLink "RegretLocks" (135 : Nat) "RegretLocks$Lock" "from" "I") ∈ zT := zTm 144 (by decide +kernel) rfl
theorem tw_145 : (Jvm.Cond.fieldLink "RegretLocks$Lock" (13 : Nat) "RegretLocks$Lock" "to" "I") ∈ zT := zTm 145 (by decide +kernel) rfl
theorem tw_146 : (Jvm.Cond.fieldLink "RegretLocks$Ways" (90 : Nat) "RegretLocks$Lock" "to" "I") ∈ zT := zTm 146 (by decide +kernel) rfl
theorem tw_147 : (Jvm.Cond.fieldLink "RegretLocks$Town" (134 : Nat) "RegretLocks$Lock" "to" "I") ∈ zT := zTm 147 (by decide +kernel) rfl
theorem tw_148 : (Jvm.Cond.fieldLink "RegretLocks" (138 : Nat) "RegretLocks$Lock" "to" "I") ∈ zT := zTm 148 (by decide +kernel) rfl
theorem tw_149 : (Jvm.Cond.fieldLink "RegretLocks$Lock" (16 : Nat) "RegretLocks$Lock" "sort" "I") ∈ zT := zTm 149 (by decide +kernel) rfl
theorem tw_150 : (Jvm.Cond.fieldLink "RegretLocks$Ways" (81 : Nat) "RegretLocks$Lock" "sort" "I") ∈ zT := zTm 150 (by decide +kernel) rfl
theorem tw_151 : (Jvm.Cond.fieldLink "RegretLocks$Town" (127 : Nat) "RegretLocks$Lock" "sort" "I") ∈ zT := zTm 151 (by decide +kernel) rfl
theorem tw_152 : (Jvm.Cond.fieldLink "RegretLocks" (141 : Nat) "RegretLocks$Lock" "sort" "I") ∈ zT := zTm 152 (by decide +kernel) rfl
theorem tw_153 : (Jvm.Cond.fieldLink "RegretLocks$Lock" (19 : Nat) "RegretLocks$Lock" "set" "I") ∈ zT := zTm 153 (by decide +kernel) rfl
theorem tw_154 : (Jvm.Cond.fieldLink "RegretLocks$Ways" (84 : Nat) "RegretLocks$Lock" "set" "I") ∈ zT := zTm 154 (by decide +kernel) rfl
theorem tw_155 : (Jvm.Cond.fieldLink "RegretLocks" (144 : Nat) "RegretLocks$Lock" "set" "I") ∈ zT := zTm 155 (by decide +kernel) rfl
theorem tw_156 : (Jvm.Cond.fieldLink "RegretLocks$Town" (158 : Nat) "RegretLocks$Lock" "set" "I") ∈ zT := zTm 156 (by decide +kernel) rfl
theorem tw_157 : (Jvm.Cond.fieldLink "RegretLocks$Lock" (22 : Nat) "RegretLocks$Lock" "jammed" "Z") ∈ zT := zTm 157 (by decide +kernel) rfl
theorem tw_158 : (Jvm.Cond.fieldLink "RegretLocks$Ways" (75 : Nat) "RegretLocks$Lock" "jammed" "Z") ∈ zT := zTm 158 (by decide +kernel) rfl
theorem tw_159 : (Jvm.Cond.fieldLink "RegretLocks$Town" (107 : Nat) "RegretLocks$Lock" "jammed" "Z") ∈ zT := zTm 159 (by decide +kernel) rfl
theorem tw_160 : (Jvm.Cond.fieldLink "RegretLocks" (147 : Nat) "RegretLocks$Lock" "jammed" "Z") ∈ zT := zTm 160 (by decide +kernel) rfl
theorem tw_172 : (Jvm.Cond.fieldLink "RegretLocks$Town" (11 : Nat) "RegretLocks$Town" "people" "[LRegretLocks$Person;") ∈ zT := zTm 172 (by decide +kernel) rfl
theorem tw_173 : (Jvm.Cond.fieldLink "RegretLocks" (77 : Nat) "RegretLocks$Town" "people" "[LRegretLocks$Person;") ∈ zT := zTm 173 (by decide +kernel) rfl
theorem tw_174 : (Jvm.Cond.fieldLink "RegretLocks$Town" (44 : Nat) "RegretLocks$Town" "peopleCount" "I") ∈ zT := zTm 174 (by decide +kernel) rfl
theorem tw_175 : (Jvm.Cond.fieldLink "RegretLocks" (72 : Nat) "RegretLocks$Town" "peopleCount" "I") ∈ zT := zTm 175 (by decide +kernel) rfl
theorem tw_176 : (Jvm.Cond.fieldLink "RegretLocks$Town" (19 : Nat) "RegretLocks$Town" "locks" "[LRegretLocks$Lock;") ∈ zT := zTm 176 (by decide +kernel) rfl
theorem tw_177 : (Jvm.Cond.fieldLink "RegretLocks$Ways" (71 : Nat) "RegretLocks$Town" "locks" "[LRegretLocks$Lock;") ∈ zT := zTm 177 (by decide +kernel) rfl
theorem tw_178 : (Jvm.Cond.fieldLink "RegretLocks" (123 : Nat) "RegretLocks$Town" "locks" "[LRegretLocks$Lock;") ∈ zT := zTm 178 (by decide +kernel) rfl
theorem tw_179 : (Jvm.Cond.fieldLink "RegretLocks$Town" (51 : Nat) "RegretLocks$Town" "lockCount" "I") ∈ zT := zTm 179 (by decide +kernel) rfl
theorem tw_180 : (Jvm.Cond.fieldLink "RegretLocks$Ways" (68 : Nat) "RegretLocks$Town" "lockCount" "I") ∈ zT := zTm 180 (by decide +kernel) rfl
theorem tw_181 : (Jvm.Cond.fieldLink "RegretLocks" (120 : Nat) "RegretLocks$Town" "lockCount" "I") ∈ zT := zTm 181 (by decide +kernel) rfl
theorem tw_182 : (Jvm.Cond.fieldLink "RegretLocks$Town" (25 : Nat) "RegretLocks$Town" "texts" "[LRegretLocks$Text;") ∈ zT := zTm 182 (by decide +kernel) rfl
theorem tw_183 : (Jvm.Cond.fieldLink "RegretLocks" (271 : Nat) "RegretLocks$Town" "texts" "[LRegretLocks$Text;") ∈ zT := zTm 183 (by decide +kernel) rfl
theorem tw_184 : (Jvm.Cond.fieldLink "RegretLocks$Town" (57 : Nat) "RegretLocks$Town" "textCount" "I") ∈ zT := zTm 184 (by decide +kernel) rfl
theorem tw_185 : (Jvm.Cond.fieldLink "RegretLocks" (264 : Nat) "RegretLocks$Town" "textCount" "I") ∈ zT := zTm 185 (by decide +kernel) rfl
theorem tw_186 : (Jvm.Cond.fieldLink "RegretLocks$Town" (29 : Nat) "RegretLocks$Town" "laws" "[LRegretLocks$Text;") ∈ zT := zTm 186 (by decide +kernel) rfl
theorem tw_187 : (Jvm.Cond.fieldLink "RegretLocks" (242 : Nat) "RegretLocks$Town" "laws" "[LRegretLocks$Text;") ∈ zT := zTm 187 (by decide +kernel) rfl
theorem tw_188 : (Jvm.Cond.fieldLink "RegretLocks$Town" (32 : Nat) "RegretLocks$Town" "deeds" "I") ∈ zT := zTm 188 (by decide +kernel) rfl
theorem tw_189 : (Jvm.Cond.fieldLink "RegretLocks" (159 : Nat) "RegretLocks$Town" "deeds" "I") ∈ zT := zTm 189 (by decide +kernel) rfl
theorem tw_190 : (Jvm.Cond.fieldLink "RegretLocks$Town" (36 : Nat) "RegretLocks$Town" "pardons" "I") ∈ zT := zTm 190 (by decide +kernel) rfl
theorem tw_191 : (Jvm.Cond.fieldLink "RegretLocks" (162 : Nat) "RegretLocks$Town" "pardons" "I") ∈ zT := zTm 191 (by decide +kernel) rfl
theorem tw_192 : (Jvm.Cond.fieldLink "RegretLocks$Town" (60 : Nat) "RegretLocks$Town" "entries" "I") ∈ zT := zTm 192 (by decide +kernel) rfl
theorem tw_193 : (Jvm.Cond.fieldLink "RegretLocks" (185 : Nat) "RegretLocks$Town" "entries" "I") ∈ zT := zTm 193 (by decide +kernel) rfl
theorem tw_194 : (Jvm.Cond.fieldLink "RegretLocks$Town" (63 : Nat) "RegretLocks$Town" "shut" "I") ∈ zT := zTm 194 (by decide +kernel) rfl
theorem tw_195 : (Jvm.Cond.fieldLink "RegretLocks" (194 : Nat) "RegretLocks$Town" "shut" "I") ∈ zT := zTm 195 (by decide +kernel) rfl
theorem tw_196 : (Jvm.Cond.fieldLink "RegretLocks$Town" (66 : Nat) "RegretLocks$Town" "jams" "I") ∈ zT := zTm 196 (by decide +kernel) rfl
theorem tw_197 : (Jvm.Cond.fieldLink "RegretLocks" (197 : Nat) "RegretLocks$Town" "jams" "I") ∈ zT := zTm 197 (by decide +kernel) rfl
theorem tw_198 : (Jvm.Cond.fieldLink "RegretLocks$Town" (69 : Nat) "RegretLocks$Town" "day" "I") ∈ zT := zTm 198 (by decide +kernel) rfl
theorem tw_199 : (Jvm.Cond.fieldLink "RegretLocks" (188 : Nat) "RegretLocks$Town" "day" "I") ∈ zT := zTm 199 (by decide +kernel) rfl
theorem tw_200 : (Jvm.Cond.fieldLink "RegretLocks$Town" (39 : Nat) "RegretLocks$Town" "z" "I") ∈ zT := zTm 200 (by decide +kernel) rfl
theorem tw_201 : (Jvm.Cond.fieldLink "RegretLocks" (174 : Nat) "RegretLocks$Town" "z" "I") ∈ zT := zTm 201 (by decide +kernel) rfl
theorem tw_231 : (Jvm.Cond.classLink "RegretLocks" (22 : Nat) "RegretLocks$Ways") ∈ zT := zTm 231 (by decide +kernel) rfl
theorem tw_232 : (Jvm.Cond.instantiable "RegretLocks$Ways" (4 : Nat)) ∈ zT := zTm 232 (by decide +kernel) rfl
theorem tw_235 : (Jvm.Cond.code ({ cls := "RegretLocks$Ways", name := "<init>", desc := "()V" } : Jvm.MethodName) prog_10_method_1_code (1 : Nat) (Option.none : Option Jvm.ClassFile.FieldType)) ∈ zT := zTm 235 (by decide +kernel) rfl
theorem tw_236 : (Jvm.Cond.methodLink "RegretLocks$Ways" (3 : Nat) ({ cls := "java/lang/Object", name := "<init>", desc := "()V" } : Jvm.MethodName)) ∈ zT := zTm 236 (by decide +kernel) rfl
theorem tw_239 : (Jvm.Cond.fieldLink "RegretLocks$Ways" (9 : Nat) "RegretLocks$Ways" "fewest" "[I") ∈ zT := zTm 239 (by decide +kernel) rfl
theorem tw_240 : (Jvm.Cond.fieldLink "RegretLocks" (213 : Nat) "RegretLocks$Ways" "fewest" "[I") ∈ zT := zTm 240 (by decide +kernel) rfl
theorem tw_241 : (Jvm.Cond.fieldLink "RegretLocks$Ways" (15 : Nat) "RegretLocks$Ways" "rooms" "[I") ∈ zT := zTm 241 (by decide +kernel) rfl
theorem tw_242 : (Jvm.Cond.fieldLink "RegretLocks$Ways" (20 : Nat) "RegretLocks$Ways" "feelings" "[[I") ∈ zT := zTm 242 (by decide +kernel) rfl
theorem tw_243 : (Jvm.Cond.fieldLink "RegretLocks$Ways" (23 : Nat) "RegretLocks$Ways" "latches" "[I") ∈ zT := zTm 243 (by decide +kernel) rfl
theorem tw_253 : (Jvm.Cond.classLink "RegretLocks" (29 : Nat) "RegretLocks$Parser") ∈ zT := zTm 253 (by decide +kernel) rfl
theorem tw_254 : (Jvm.Cond.instantiable "RegretLocks$Parser" (14 : Nat)) ∈ zT := zTm 254 (by decide +kernel) rfl
theorem tw_257 : (Jvm.Cond.code ({ cls := "RegretLocks$Parser", name := "<init>", desc := "()V" } : Jvm.MethodName) prog_4_method_1_code (1 : Nat) (Option.none : Option Jvm.ClassFile.FieldType)) ∈ zT := zTm 257 (by decide +kernel) rfl
theorem tw_258 : (Jvm.Cond.methodLink "RegretLocks$Parser" (3 : Nat) ({ cls := "java/lang/Object", name := "<init>", desc := "()V" } : Jvm.MethodName)) ∈ zT := zTm 258 (by decide +kernel) rfl
theorem tw_259 : (Jvm.Cond.fieldLink "RegretLocks$Parser" (9 : Nat) "RegretLocks$Parser" "bytes" "[B") ∈ zT := zTm 259 (by decide +kernel) rfl
theorem tw_260 : (Jvm.Cond.fieldLink "RegretLocks$Parser" (57 : Nat) "RegretLocks$Parser" "length" "I") ∈ zT := zTm 260 (by decide +kernel) rfl
theorem tw_261 : (Jvm.Cond.fieldLink "RegretLocks$Parser" (37 : Nat) "RegretLocks$Parser" "start" "I") ∈ zT := zTm 261 (by decide +kernel) rfl
theorem tw_262 : (Jvm.Cond.fieldLink "RegretLocks$Parser" (87 : Nat) "RegretLocks$Parser" "end" "I") ∈ zT := zTm 262 (by decide +kernel) rfl
theorem tw_263 : (Jvm.Cond.fieldLink "RegretLocks$Parser" (40 : Nat) "RegretLocks$Parser" "sort" "I") ∈ zT := zTm 263 (by decide +kernel) rfl
theorem tw_264 : (Jvm.Cond.fieldLink "RegretLocks$Parser" (43 : Nat) "RegretLocks$Parser" "needsBlank" "Z") ∈ zT := zTm 264 (by decide +kernel) rfl
theorem tw_265 : (Jvm.Cond.fieldLink "RegretLocks$Parser" (33 : Nat) "RegretLocks$Parser" "key" "I") ∈ zT := zTm 265 (by decide +kernel) rfl
theorem tw_266 : (Jvm.Cond.fieldLink "RegretLocks$Parser" (66 : Nat) "RegretLocks$Parser" "pieces" "I") ∈ zT := zTm 266 (by decide +kernel) rfl
theorem tw_267 : (Jvm.Cond.fieldLink "RegretLocks$Parser" (15 : Nat) "RegretLocks$Parser" "row" "[I") ∈ zT := zTm 267 (by decide +kernel) rfl
theorem tw_268 : (Jvm.Cond.fieldLink "RegretLocks$Parser" (69 : Nat) "RegretLocks$Parser" "rowLength" "I") ∈ zT := zTm 268 (by decide +kernel) rfl
theorem tw_269 : (Jvm.Cond.fieldLink "RegretLocks$Parser" (19 : Nat) "RegretLocks$Parser" "open" "[I") ∈ zT := zTm 269 (by decide +kernel) rfl
theorem tw_270 : (Jvm.Cond.fieldLink "RegretLocks$Parser" (90 : Nat) "RegretLocks$Parser" "openLength" "I") ∈ zT := zTm 270 (by decide +kernel) rfl
theorem tw_271 : (Jvm.Cond.fieldLink "RegretLocks$Parser" (54 : Nat) "RegretLocks$Parser" "brackets" "I") ∈ zT := zTm 271 (by decide +kernel) rfl
theorem tw_272 : (Jvm.Cond.fieldLink "RegretLocks$Parser" (93 : Nat) "RegretLocks$Parser" "nots" "I") ∈ zT := zTm 272 (by decide +kernel) rfl
theorem tw_302 : (Jvm.Cond.arrayClass Jvm.ClassFile.FieldType.byte) ∈ zT := zTm 302 (by decide +kernel) rfl
theorem tw_303 : (Jvm.Cond.classLink "RegretLocks" (40 : Nat) "RegretLocks$Sheet") ∈ zT := zTm 303 (by decide +kernel) rfl
theorem tw_305 : (Jvm.Cond.classLink "RegretLocks" (46 : Nat) "RegretLocks$Slot") ∈ zT := zTm 305 (by decide +kernel) rfl
theorem tw_307 : (Jvm.Cond.instantiable "RegretLocks$Sheet" (3 : Nat)) ∈ zT := zTm 307 (by decide +kernel) rfl
theorem tw_310 : (Jvm.Cond.code ({ cls := "RegretLocks$Sheet", name := "<init>", desc := "()V" } : Jvm.MethodName) prog_6_method_1_code (1 : Nat) (Option.none : Option Jvm.ClassFile.FieldType)) ∈ zT := zTm 310 (by decide +kernel) rfl
theorem tw_311 : (Jvm.Cond.methodLink "RegretLocks$Sheet" (3 : Nat) ({ cls := "java/lang/Object", name := "<init>", desc := "()V" } : Jvm.MethodName)) ∈ zT := zTm 311 (by decide +kernel) rfl
theorem tw_312 : (Jvm.Cond.fieldLink "RegretLocks$Sheet" (11 : Nat) "RegretLocks$Sheet" "sort" "I") ∈ zT := zTm 312 (by decide +kernel) rfl
theorem tw_313 : (Jvm.Cond.fieldLink "RegretLocks" (291 : Nat) "RegretLocks$Sheet" "sort" "I") ∈ zT := zTm 313 (by decide +kernel) rfl
theorem tw_314 : (Jvm.Cond.fieldLink "RegretLocks$Sheet" (19 : Nat) "RegretLocks$Sheet" "length" "I") ∈ zT := zTm 314 (by decide +kernel) rfl
theorem tw_315 : (Jvm.Cond.fieldLink "RegretLocks" (297 : Nat) "RegretLocks$Sheet" "length" "I") ∈ zT := zTm 315 (by decide +kernel) rfl
theorem tw_316 : (Jvm.Cond.fieldLink "RegretLocks$Sheet" (15 : Nat) "RegretLocks$Sheet" "places" "[I") ∈ zT := zTm 316 (by decide +kernel) rfl
theorem tw_317 : (Jvm.Cond.fieldLink "RegretLocks" (292 : Nat) "RegretLocks$Sheet" "places" "[I") ∈ zT := zTm 317 (by decide +kernel) rfl
theorem tw_325 : (Jvm.Cond.instantiable "RegretLocks$Slot" (4 : Nat)) ∈ zT := zTm 325 (by decide +kernel) rfl
theorem tw_328 : (Jvm.Cond.code ({ cls := "RegretLocks$Slot", name := "<init>", desc := "()V" } : Jvm.MethodName) prog_7_method_1_code (1 : Nat) (Option.none : Option Jvm.ClassFile.FieldType)) ∈ zT := zTm 328 (by decide +kernel) rfl
theorem tw_329 : (Jvm.Cond.methodLink "RegretLocks$Slot" (1 : Nat) ({ cls := "java/lang/Object", name := "<init>", desc := "()V" } : Jvm.MethodName)) ∈ zT := zTm 329 (by decide +kernel) rfl
theorem tw_330 : (Jvm.Cond.classLink "RegretLocks$Slot" (13 : Nat) "RegretLocks$Person") ∈ zT := zTm 330 (by decide +kernel) rfl
theorem tw_332 : (Jvm.Cond.classLink "RegretLocks$Slot" (20 : Nat) "RegretLocks$Sheet") ∈ zT := zTm 332 (by decide +kernel) rfl
theorem tw_334 : (Jvm.Cond.fieldLink "RegretLocks$Slot" (9 : Nat) "RegretLocks$Slot" "thing" "I") ∈ zT := zTm 334 (by decide +kernel) rfl
theorem tw_335 : (Jvm.Cond.fieldLink "RegretLocks" (318 : Nat) "RegretLocks$Slot" "thing" "I") ∈ zT := zTm 335 (by decide +kernel) rfl
theorem tw_336 : (Jvm.Cond.fieldLink "RegretLocks$Slot" (16 : Nat) "RegretLocks$Slot" "person" "LRegretLocks$Person;") ∈ zT := zTm 336 (by decide +kernel) rfl
theorem tw_337 : (Jvm.Cond.fieldLink "RegretLocks" (321 : Nat) "RegretLocks$Slot" "person" "LRegretLocks$Person;") ∈ zT := zTm 337 (by decide +kernel) rfl
theorem tw_338 : (Jvm.Cond.fieldLink "RegretLocks$Slot" (23 : Nat) "RegretLocks$Slot" "sheet" "LRegretLocks$Sheet;") ∈ zT := zTm 338 (by decide +kernel) rfl
theorem tw_339 : (Jvm.Cond.fieldLink "RegretLocks" (328 : Nat) "RegretLocks$Slot" "sheet" "LRegretLocks$Sheet;") ∈ zT := zTm 339 (by decide +kernel) rfl
theorem tw_340 : (Jvm.Cond.fieldLink "RegretLocks" (334 : Nat) "RegretLocks$Slot" "number" "I") ∈ zT := zTm 340 (by decide +kernel) rfl
theorem tw_350 : (Jvm.Cond.fieldLink "RegretLocks" (10 : Nat) "RegretLocks" "now" "LRegretLocks$Town;") ∈ zT := zTm 350 (by decide +kernel) rfl
theorem tw_351 : (Jvm.Cond.fieldLink "RegretLocks" (16 : Nat) "RegretLocks" "image" "LRegretLocks$Town;") ∈ zT := zTm 351 (by decide +kernel) rfl
theorem tw_352 : (Jvm.Cond.fieldLink "RegretLocks" (19 : Nat) "RegretLocks" "thought" "LRegretLocks$Town;") ∈ zT := zTm 352 (by decide +kernel) rfl
theorem tw_353 : (Jvm.Cond.fieldLink "RegretLocks" (338 : Nat) "RegretLocks" "kept" "Z") ∈ zT := zTm 353 (by decide +kernel) rfl
theorem tw_354 : (Jvm.Cond.fieldLink "RegretLocks" (25 : Nat) "RegretLocks" "ways" "LRegretLocks$Ways;") ∈ zT := zTm 354 (by decide +kernel) rfl
theorem tw_355 : (Jvm.Cond.fieldLink "RegretLocks" (32 : Nat) "RegretLocks" "parser" "LRegretLocks$Parser;") ∈ zT := zTm 355 (by decide +kernel) rfl
theorem tw_356 : (Jvm.Cond.fieldLink "RegretLocks" (36 : Nat) "RegretLocks" "tape" "[B") ∈ zT := zTm 356 (by decide +kernel) rfl
theorem tw_357 : (Jvm.Cond.fieldLink "RegretLocks" (253 : Nat) "RegretLocks" "tapeLength" "I") ∈ zT := zTm 357 (by decide +kernel) rfl
theorem tw_358 : (Jvm.Cond.fieldLink "RegretLocks" (42 : Nat) "RegretLocks" "sheets" "[LRegretLocks$Sheet;") ∈ zT := zTm 358 (by decide +kernel) rfl
theorem tw_359 : (Jvm.Cond.fieldLink "RegretLocks" (48 : Nat) "RegretLocks" "slots" "[LRegretLocks$Slot;") ∈ zT := zTm 359 (by decide +kernel) rfl
theorem tw_360 : (Jvm.Cond.fieldLink "RegretLocks" (52 : Nat) "RegretLocks" "waiting" "[I") ∈ zT := zTm 360 (by decide +kernel) rfl
theorem tw_361 : (Jvm.Cond.fieldLink "RegretLocks" (335 : Nat) "RegretLocks" "waits" "I") ∈ zT := zTm 361 (by decide +kernel) rfl
theorem tw_362 : (Jvm.Cond.fieldLink "RegretLocks" (56 : Nat) "RegretLocks" "hits" "[I") ∈ zT := zTm 362 (by decide +kernel) rfl
theorem tw_390 : (Jvm.Cond.methodLink "RegretLocksLaw" (13 : Nat) ({ cls := "RegretLocks", name := "one", desc := "(IIIII)I" } : Jvm.MethodName)) ∈ zT := zTm 390 (by decide +kernel) rfl
theorem tw_391 : (Jvm.Cond.instanceMethod ({ cls := "RegretLocks", name := "one", desc := "(IIIII)I" } : Jvm.MethodName)) ∈ zT := zTm 391 (by decide +kernel) rfl
theorem tw_392 : (Jvm.Cond.selects "RegretLocks" ({ cls := "RegretLocks", name := "one", desc := "(IIIII)I" } : Jvm.MethodName) ({ cls := "RegretLocks", name := "one", desc := "(IIIII)I" } : Jvm.MethodName)) ∈ zT := zTm 392 (by decide +kernel) rfl
theorem tw_393 : (Jvm.Cond.code ({ cls := "RegretLocks", name := "one", desc := "(IIIII)I" } : Jvm.MethodName) prog_1_method_2_code (6 : Nat) (Option.some Jvm.ClassFile.FieldType.int)) ∈ zT := zTm 393 (by decide +kernel) rfl
theorem tw_394 : (Jvm.Cond.methodLink "RegretLocks" (61 : Nat) ({ cls := "RegretLocks", name := "isKind", desc := "(I)Z" } : Jvm.MethodName)) ∈ zT := zTm 394 (by decide +kernel) rfl
theorem tw_395 : (Jvm.Cond.static ({ cls := "RegretLocks", name := "isKind", desc := "(I)Z" } : Jvm.MethodName)) ∈ zT := zTm 395 (by decide +kernel) rfl
theorem tw_396 : (Jvm.Cond.code ({ cls := "RegretLocks", name := "isKind", desc := "(I)Z" } : Jvm.MethodName) prog_1_method_49_code (1 : Nat) (Option.some Jvm.ClassFile.FieldType.boolean)) ∈ zT := zTm 396 (by decide +kernel) rfl
theorem tw_397 : (Jvm.Cond.methodLink "RegretLocks" (65 : Nat) ({ cls := "RegretLocks", name := "isRoom", desc := "(I)Z" } : Jvm.MethodName)) ∈ zT := zTm 397 (by decide +kernel) rfl
theorem tw_398 : (Jvm.Cond.static ({ cls := "RegretLocks", name := "isRoom", desc := "(I)Z" } : Jvm.MethodName)) ∈ zT := zTm 398 (by decide +kernel) rfl
theorem tw_399 : (Jvm.Cond.code ({ cls := "RegretLocks", name := "isRoom", desc := "(I)Z" } : Jvm.MethodName) prog_1_method_50_code (1 : Nat) (Option.some Jvm.ClassFile.FieldType.boolean)) ∈ zT := zTm 399 (by decide +kernel) rfl
theorem tw_400 : (Jvm.Cond.methodLink "RegretLocks" (68 : Nat) ({ cls := "RegretLocks", name := "isRegret", desc := "(I)Z" } : Jvm.MethodName)) ∈ zT := zTm 400 (by decide +kernel) rfl
theorem tw_401 : (Jvm.Cond.static ({ cls := "RegretLocks", name := "isRegret", desc := "(I)Z" } : Jvm.MethodName)) ∈ zT := zTm 401 (by decide +kernel) rfl
theorem tw_402 : (Jvm.Cond.code ({ cls := "RegretLocks", name := "isRegret", desc := "(I)Z" } : Jvm.MethodName) prog_1_method_52_code (1 : Nat) (Option.some Jvm.ClassFile.FieldType.boolean)) ∈ zT := zTm 402 (by decide +kernel) rfl
theorem tw_403 : (Jvm.Cond.constant "RegretLocks" (71 : Nat) (-1000000001 : Int32)) ∈ zT := zTm 403 (by decide +kernel) rfl
theorem tw_404 : (Jvm.Cond.constant "RegretLocks" (76 : Nat) (-1000000003 : Int32)) ∈ zT := zTm 404 (by decide +kernel) rfl
theorem tw_405 : (Jvm.Cond.methodLink "RegretLocks" (81 : Nat) ({ cls := "RegretLocks$Person", name := "become", desc := "(IIIII)V" } : Jvm.MethodName)) ∈ zT := zTm 405 (by decide +kernel) rfl
theorem tw_406 : (Jvm.Cond.instanceMethod ({ cls := "RegretLocks$Person", name := "become", desc := "(IIIII)V" } : Jvm.MethodName)) ∈ zT := zTm 406 (by decide +kernel) rfl
theorem tw_407 : (Jvm.Cond.selects "RegretLocks$Person" ({ cls := "RegretLocks$Person", name := "become", desc := "(IIIII)V" } : Jvm.MethodName) ({ cls := "RegretLocks$Person", name := "become", desc := "(IIIII)V" } : Jvm.MethodName)) ∈ zT := zTm 407 (by decide +kernel) rfl
theorem tw_408 : (Jvm.Cond.code ({ cls := "RegretLocks$Person", name := "become", desc := "(IIIII)V" } : Jvm.MethodName) prog_5_method_2_code (6 : Nat) (Option.none : Option Jvm.ClassFile.FieldType)) ∈ zT := zTm 408 (by decide +kernel) rfl
theorem tw_409 : (Jvm.Cond.methodLink "RegretLocksLaw" (18 : Nat) ({ cls := "RegretLocks", name := "told", desc := "(II)I" } : Jvm.MethodName)) ∈ zT := zTm 409 (by decide +kernel) rfl
theorem tw_410 : (Jvm.Cond.instanceMethod ({ cls := "RegretLocks", name := "told", desc := "(II)I" } : Jvm.MethodName)) ∈ zT := zTm 410 (by decide +kernel) rfl
theorem tw_411 : (Jvm.Cond.selects "RegretLocks" ({ cls := "RegretLocks", name := "told", desc := "(II)I" } : Jvm.MethodName) ({ cls := "RegretLocks", name := "told", desc := "(II)I" } : Jvm.MethodName)) ∈ zT := zTm 411 (by decide +kernel) rfl
theorem tw_412 : (Jvm.Cond.code ({ cls := "RegretLocks", name := "told", desc := "(II)I" } : Jvm.MethodName) prog_1_method_3_code (4 : Nat) (Option.some Jvm.ClassFile.FieldType.int)) ∈ zT := zTm 412 (by decide +kernel) rfl
theorem tw_413 : (Jvm.Cond.methodLink "RegretLocks" (87 : Nat) ({ cls := "RegretLocks", name := "isOne", desc := "(I)Z" } : Jvm.MethodName)) ∈ zT := zTm 413 (by decide +kernel) rfl
theorem tw_415 : (Jvm.Cond.instanceMethod ({ cls := "RegretLocks", name := "isOne", desc := "(I)Z" } : Jvm.MethodName)) ∈ zT := zTm 415 (by decide +kernel) rfl
theorem tw_416 : (Jvm.Cond.code ({ cls := "RegretLocks", name := "isOne", desc := "(I)Z" } : Jvm.MethodName) prog_1_method_56_code (2 : Nat) (Option.some Jvm.ClassFile.FieldType.boolean)) ∈ zT := zTm 416 (by decide +kernel) rfl
theorem tw_417 : (Jvm.Cond.methodLink "RegretLocks" (99 : Nat) ({ cls := "RegretLocks$Person", name := "feelsOf", desc := "(I)I" } : Jvm.MethodName)) ∈ zT := zTm 417 (by decide +kernel) rfl
theorem tw_418 : (Jvm.Cond.instanceMethod ({ cls := "RegretLocks$Person", name := "feelsOf", desc := "(I)I" } : Jvm.MethodName)) ∈ zT := zTm 418 (by decide +kernel) rfl
theorem tw_419 : (Jvm.Cond.selects "RegretLocks$Person" ({ cls := "RegretLocks$Person", name := "feelsOf", desc := "(I)I" } : Jvm.MethodName) ({ cls := "RegretLocks$Person", name := "feelsOf", desc := "(I)I" } : Jvm.MethodName)) ∈ zT := zTm 419 (by decide +kernel) rfl
theorem tw_420 : (Jvm.Cond.code ({ cls := "RegretLocks$Person", name := "feelsOf", desc := "(I)I" } : Jvm.MethodName) prog_5_method_4_code (2 : Nat) (Option.some Jvm.ClassFile.FieldType.int)) ∈ zT := zTm 420 (by decide +kernel) rfl
theorem tw_421 : (Jvm.Cond.methodLink "RegretLocks$Person" (26 : Nat) ({ cls := "RegretLocks$Kinds", name := "feels", desc := "(II)I" } : Jvm.MethodName)) ∈ zT := zTm 421 (by decide +kernel) rfl
theorem tw_422 : (Jvm.Cond.static ({ cls := "RegretLocks$Kinds", name := "feels", desc := "(II)I" } : Jvm.MethodName)) ∈ zT := zTm 422 (by decide +kernel) rfl
theorem tw_423 : (Jvm.Cond.code ({ cls := "RegretLocks$Kinds", name := "feels", desc := "(II)I" } : Jvm.MethodName) prog_2_method_3_code (2 : Nat) (Option.some Jvm.ClassFile.FieldType.int)) ∈ zT := zTm 423 (by decide +kernel) rfl
theorem tw_424 : (Jvm.Cond.methodLink "RegretLocks" (103 : Nat) ({ cls := "RegretLocks$Person", name := "worth", desc := "()I" } : Jvm.MethodName)) ∈ zT := zTm 424 (by decide +kernel) rfl
theorem tw_425 : (Jvm.Cond.instanceMethod ({ cls := "RegretLocks$Person", name := "worth", desc := "()I" } : Jvm.MethodName)) ∈ zT := zTm 425 (by decide +kernel) rfl
theorem tw_426 : (Jvm.Cond.selects "RegretLocks$Person" ({ cls := "RegretLocks$Person", name := "worth", desc := "()I" } : Jvm.MethodName) ({ cls := "RegretLocks$Person", name := "worth", desc := "()I" } : Jvm.MethodName)) ∈ zT := zTm 426 (by decide +kernel) rfl
theorem tw_427 : (Jvm.Cond.code ({ cls := "RegretLocks$Person", name := "worth", desc := "()I" } : Jvm.MethodName) prog_5_method_6_code (1 : Nat) (Option.some Jvm.ClassFile.FieldType.int)) ∈ zT := zTm 427 (by decide +kernel) rfl
theorem tw_428 : (Jvm.Cond.methodLink "RegretLocks$Person" (32 : Nat) ({ cls := "RegretLocks$Person", name := "allRegrets", desc := "()I" } : Jvm.MethodName)) ∈ zT := zTm 428 (by decide +kernel) rfl
theorem tw_429 : (Jvm.Cond.instanceMethod ({ cls := "RegretLocks$Person", name := "allRegrets", desc := "()I" } : Jvm.MethodName)) ∈ zT := zTm 429 (by decide +kernel) rfl
theorem tw_430 : (Jvm.Cond.selects "RegretLocks$Person" ({ cls := "RegretLocks$Person", name := "allRegrets", desc := "()I" } : Jvm.MethodName) ({ cls := "RegretLocks$Person", name := "allRegrets", desc := "()I" } : Jvm.MethodName)) ∈ zT := zTm 430 (by decide +kernel) rfl
theorem tw_431 : (Jvm.Cond.code ({ cls := "RegretLocks$Person", name := "allRegrets", desc := "()I" } : Jvm.MethodName) prog_5_method_5_code (1 : Nat) (Option.some Jvm.ClassFile.FieldType.int)) ∈ zT := zTm 431 (by decide +kernel) rfl
theorem tw_432 : (Jvm.Cond.methodLink "RegretLocks$Person" (36 : Nat) ({ cls := "RegretLocks$Kinds", name := "worth", desc := "(II)I" } : Jvm.MethodName)) ∈ zT := zTm 432 (by decide +kernel) rfl
theorem tw_433 : (Jvm.Cond.static ({ cls := "RegretLocks$Kinds", name := "worth", desc := "(II)I" } : Jvm.MethodName)) ∈ zT := zTm 433 (by decide +kernel) rfl
theorem tw_434 : (Jvm.Cond.code ({ cls := "RegretLocks$Kinds", name := "worth", desc := "(II)I" } : Jvm.MethodName) prog_2_method_5_code (2 : Nat) (Option.some Jvm.ClassFile.FieldType.int)) ∈ zT := zTm 434 (by decide +kernel) rfl
theorem tw_435 : (Jvm.Cond.methodLink "RegretLocksLaw" (23 : Nat) ({ cls := "RegretLocks", name := "as", desc := "(II)I" } : Jvm.MethodName)) ∈ zT := zTm 435 (by decide +kernel) rfl
theorem tw_436 : (Jvm.Cond.instanceMethod ({ cls := "RegretLocks", name := "as", desc := "(II)I" } : Jvm.MethodName)) ∈ zT := zTm 436 (by decide +kernel) rfl
theorem tw_437 : (Jvm.Cond.selects "RegretLocks" ({ cls := "RegretLocks", name := "as", desc := "(II)I" } : Jvm.MethodName) ({ cls := "RegretLocks", name := "as", desc := "(II)I" } : Jvm.MethodName)) ∈ zT := zTm 437 (by decide +kernel) rfl
theorem tw_438 : (Jvm.Cond.code ({ cls := "RegretLocks", name := "as", desc := "(II)I" } : Jvm.MethodName) prog_1_method_4_code (4 : Nat) (Option.some Jvm.ClassFile.FieldType.int)) ∈ zT := zTm 438 (by decide +kernel) rfl
theorem tw_439 : (Jvm.Cond.methodLink "RegretLocks" (107 : Nat) ({ cls := "RegretLocks$Kinds", name := "isOf", desc := "(II)Z" } : Jvm.MethodName)) ∈ zT := zTm 439 (by decide +kernel) rfl
theorem tw_440 : (Jvm.Cond.static ({ cls := "RegretLocks$Kinds", name := "isOf", desc := "(II)Z" } : Jvm.MethodName)) ∈ zT := zTm 440 (by decide +kernel) rfl
theorem tw_441 : (Jvm.Cond.code ({ cls := "RegretLocks$Kinds", name := "isOf", desc := "(II)Z" } : Jvm.MethodName) prog_2_method_2_code (4 : Nat) (Option.some Jvm.ClassFile.FieldType.boolean)) ∈ zT := zTm 441 (by decide +kernel) rfl
theorem tw_442 : (Jvm.Cond.fieldLink "RegretLocks$Kinds" (9 : Nat) "RegretLocks$Kinds" "ABOVE" "[I") ∈ zT := zTm 442 (by decide +kernel) rfl
theorem tw_444 : (Jvm.Cond.constant "RegretLocks" (113 : Nat) (-1000000012 : Int32)) ∈ zT := zTm 444 (by decide +kernel) rfl
theorem tw_445 : (Jvm.Cond.methodLink "RegretLocksLaw" (27 : Nat) ({ cls := "RegretLocks", name := "turns", desc := "(II)I" } : Jvm.MethodName)) ∈ zT := zTm 445 (by decide +kernel) rfl
theorem tw_446 : (Jvm.Cond.instanceMethod ({ cls := "RegretLocks", name := "turns", desc := "(II)I" } : Jvm.MethodName)) ∈ zT := zTm 446 (by decide +kernel) rfl
theorem tw_447 : (Jvm.Cond.selects "RegretLocks" ({ cls := "RegretLocks", name := "turns", desc := "(II)I" } : Jvm.MethodName) ({ cls := "RegretLocks", name := "turns", desc := "(II)I" } : Jvm.MethodName)) ∈ zT := zTm 447 (by decide +kernel) rfl
theorem tw_448 : (Jvm.Cond.code ({ cls := "RegretLocks", name := "turns", desc := "(II)I" } : Jvm.MethodName) prog_1_method_5_code (4 : Nat) (Option.some Jvm.ClassFile.FieldType.int)) ∈ zT := zTm 448 (by decide +kernel) rfl
theorem tw_449 : (Jvm.Cond.methodLink "RegretLocksLaw" (31 : Nat) ({ cls := "RegretLocks", name := "set", desc := "(III)I" } : Jvm.MethodName)) ∈ zT := zTm 449 (by decide +kernel) rfl
theorem tw_450 : (Jvm.Cond.instanceMethod ({ cls := "RegretLocks", name := "set", desc := "(III)I" } : Jvm.MethodName)) ∈ zT := zTm 450 (by decide +kernel) rfl
theorem tw_451 : (Jvm.Cond.selects "RegretLocks" ({ cls := "RegretLocks", name := "set", desc := "(III)I" } : Jvm.MethodName) ({ cls := "RegretLocks", name := "set", desc := "(III)I" } : Jvm.MethodName)) ∈ zT := zTm 451 (by decide +kernel) rfl
theorem tw_452 : (Jvm.Cond.code ({ cls := "RegretLocks", name := "set", desc := "(III)I" } : Jvm.MethodName) prog_1_method_6_code (6 : Nat) (Option.some Jvm.ClassFile.FieldType.int)) ∈ zT := zTm 452 (by decide +kernel) rfl
theorem tw_453 : (Jvm.Cond.methodLink "RegretLocksLaw" (36 : Nat) ({ cls := "RegretLocks", name := "lock", desc := "(IIII)I" } : Jvm.MethodName)) ∈ zT := zTm 453 (by decide +kernel) rfl
theorem tw_454 : (Jvm.Cond.instanceMethod ({ cls := "RegretLocks", name := "lock", desc := "(IIII)I" } : Jvm.MethodName)) ∈ zT := zTm 454 (by decide +kernel) rfl
theorem tw_455 : (Jvm.Cond.selects "RegretLocks" ({ cls := "RegretLocks", name := "lock", desc := "(IIII)I" } : Jvm.MethodName) ({ cls := "RegretLocks", name := "lock", desc := "(IIII)I" } : Jvm.MethodName)) ∈ zT := zTm 455 (by decide +kernel) rfl
theorem tw_456 : (Jvm.Cond.code ({ cls := "RegretLocks", name := "lock", desc := "(IIII)I" } : Jvm.MethodName) prog_1_method_7_code (5 : Nat) (Option.some Jvm.ClassFile.FieldType.int)) ∈ zT := zTm 456 (by decide +kernel) rfl
theorem tw_457 : (Jvm.Cond.methodLink "RegretLocks" (114 : Nat) ({ cls := "RegretLocks", name := "isSort", desc := "(I)Z" } : Jvm.MethodName)) ∈ zT := zTm 457 (by decide +kernel) rfl
theorem tw_458 : (Jvm.Cond.static ({ cls := "RegretLocks", name := "isSort", desc := "(I)Z" } : Jvm.MethodName)) ∈ zT := zTm 458 (by decide +kernel) rfl
theorem tw_459 : (Jvm.Cond.code ({ cls := "RegretLocks", name := "isSort", desc := "(I)Z" } : Jvm.MethodName) prog_1_method_51_code (1 : Nat) (Option.some Jvm.ClassFile.FieldType.boolean)) ∈ zT := zTm 459 (by decide +kernel) rfl
theorem tw_460 : (Jvm.Cond.methodLink "RegretLocks" (117 : Nat) ({ cls := "RegretLocks", name := "isSet", desc := "(I)Z" } : Jvm.MethodName)) ∈ zT := zTm 460 (by decide +kernel) rfl
theorem tw_461 : (Jvm.Cond.static ({ cls := "RegretLocks", name := "isSet", desc := "(I)Z" } : Jvm.MethodName)) ∈ zT := zTm 461 (by decide +kernel) rfl
theorem tw_462 : (Jvm.Cond.code ({ cls := "RegretLocks", name := "isSet", desc := "(I)Z" } : Jvm.MethodName) prog_1_method_53_code (1 : Nat) (Option.some Jvm.ClassFile.FieldType.boolean)) ∈ zT := zTm 462 (by decide +kernel) rfl
theorem tw_463 : (Jvm.Cond.methodLink "RegretLocks" (127 : Nat) ({ cls := "RegretLocks$Lock", name := "become", desc := "(IIII)V" } : Jvm.MethodName)) ∈ zT := zTm 463 (by decide +kernel) rfl
theorem tw_464 : (Jvm.Cond.instanceMethod ({ cls := "RegretLocks$Lock", name := "become", desc := "(IIII)V" } : Jvm.MethodName)) ∈ zT := zTm 464 (by decide +kernel) rfl
theorem tw_465 : (Jvm.Cond.selects "RegretLocks$Lock" ({ cls := "RegretLocks$Lock", name := "become", desc := "(IIII)V" } : Jvm.MethodName) ({ cls := "RegretLocks$Lock", name := "become", desc := "(IIII)V" } : Jvm.MethodName)) ∈ zT := zTm 465 (by decide +kernel) rfl
theorem tw_466 : (Jvm.Cond.code ({ cls := "RegretLocks$Lock", name := "become", desc := "(IIII)V" } : Jvm.MethodName) prog_3_method_2_code (5 : Nat) (Option.none : Option Jvm.ClassFile.FieldType)) ∈ zT := zTm 466 (by decide +kernel) rfl
theorem tw_467 : (Jvm.Cond.methodLink "RegretLocksLaw" (41 : Nat) ({ cls := "RegretLocks", name := "about", desc := "(II)I" } : Jvm.MethodName)) ∈ zT := zTm 467 (by decide +kernel) rfl
theorem tw_468 : (Jvm.Cond.instanceMethod ({ cls := "RegretLocks", name := "about", desc := "(II)I" } : Jvm.MethodName)) ∈ zT := zTm 468 (by decide +kernel) rfl
theorem tw_469 : (Jvm.Cond.selects "RegretLocks" ({ cls := "RegretLocks", name := "about", desc := "(II)I" } : Jvm.MethodName) ({ cls := "RegretLocks", name := "about", desc := "(II)I" } : Jvm.MethodName)) ∈ zT := zTm 469 (by decide +kernel) rfl
theorem tw_470 : (Jvm.Cond.code ({ cls := "RegretLocks", name := "about", desc := "(II)I" } : Jvm.MethodName) prog_1_method_8_code (4 : Nat) (Option.some Jvm.ClassFile.FieldType.int)) ∈ zT := zTm 470 (by decide +kernel) rfl
theorem tw_471 : (Jvm.Cond.methodLink "RegretLocks" (132 : Nat) ({ cls := "RegretLocks", name := "isLock", desc := "(I)Z" } : Jvm.MethodName)) ∈ zT := zTm 471 (by decide +kernel) rfl
theorem tw_473 : (Jvm.Cond.instanceMethod ({ cls := "RegretLocks", name := "isLock", desc := "(I)Z" } : Jvm.MethodName)) ∈ zT := zTm 473 (by decide +kernel) rfl
theorem tw_474 : (Jvm.Cond.code ({ cls := "RegretLocks", name := "isLock", desc := "(I)Z" } : Jvm.MethodName) prog_1_method_57_code (2 : Nat) (Option.some Jvm.ClassFile.FieldType.boolean)) ∈ zT := zTm 474 (by decide +kernel) rfl
theorem tw_475 : (Jvm.Cond.methodLink "RegretLocks" (151 : Nat) ({ cls := "RegretLocks$Town", name := "thoseWhoOpen", desc := "(LRegretLocks$Lock;)I" } : Jvm.MethodName)) ∈ zT := zTm 475 (by decide +kernel) rfl
theorem tw_476 : (Jvm.Cond.instanceMethod ({ cls := "RegretLocks$Town", name := "thoseWhoOpen", desc := "(LRegretLocks$Lock;)I" } : Jvm.MethodName)) ∈ zT := zTm 476 (by decide +kernel) rfl
theorem tw_477 : (Jvm.Cond.selects "RegretLocks$Town" ({ cls := "RegretLocks$Town", name := "thoseWhoOpen", desc := "(LRegretLocks$Lock;)I" } : Jvm.MethodName) ({ cls := "RegretLocks$Town", name := "thoseWhoOpen", desc := "(LRegretLocks$Lock;)I" } : Jvm.MethodName)) ∈ zT := zTm 477 (by decide +kernel) rfl
theorem tw_478 : (Jvm.Cond.code ({ cls := "RegretLocks$Town", name := "thoseWhoOpen", desc := "(LRegretLocks$Lock;)I" } : Jvm.MethodName) prog_9_method_15_code (2 : Nat) (Option.some Jvm.ClassFile.FieldType.int)) ∈ zT := zTm 478 (by decide +kernel) rfl
theorem tw_479 : (Jvm.Cond.methodLink "RegretLocks$Town" (161 : Nat) ({ cls := "RegretLocks$Town", name := "thoseWhoFeel", desc := "(II)I" } : Jvm.MethodName)) ∈ zT := zTm 479 (by decide +kernel) rfl
theorem tw_480 : (Jvm.Cond.instanceMethod ({ cls := "RegretLocks$Town", name := "thoseWhoFeel", desc := "(II)I" } : Jvm.MethodName)) ∈ zT := zTm 480 (by decide +kernel) rfl
theorem tw_481 : (Jvm.Cond.selects "RegretLocks$Town" ({ cls := "RegretLocks$Town", name := "thoseWhoFeel", desc := "(II)I" } : Jvm.MethodName) ({ cls := "RegretLocks$Town", name := "thoseWhoFeel", desc := "(II)I" } : Jvm.MethodName)) ∈ zT := zTm 481 (by decide +kernel) rfl
theorem tw_482 : (Jvm.Cond.code ({ cls := "RegretLocks$Town", name := "thoseWhoFeel", desc := "(II)I" } : Jvm.MethodName) prog_9_method_16_code (5 : Nat) (Option.some Jvm.ClassFile.FieldType.int)) ∈ zT := zTm 482 (by decide +kernel) rfl
theorem tw_483 : (Jvm.Cond.methodLink "RegretLocks$Town" (164 : Nat) ({ cls := "RegretLocks$Person", name := "feelsOf", desc := "(I)I" } : Jvm.MethodName)) ∈ zT := zTm 483 (by decide +kernel) rfl
theorem tw_484 : (Jvm.Cond.methodLink "RegretLocksLaw" (45 : Nat) ({ cls := "RegretLocks", name := "sets", desc := "(III)I" } : Jvm.MethodName)) ∈ zT := zTm 484 (by decide +kernel) rfl
theorem tw_485 : (Jvm.Cond.instanceMethod ({ cls := "RegretLocks", name := "sets", desc := "(III)I" } : Jvm.MethodName)) ∈ zT := zTm 485 (by decide +kernel) rfl
theorem tw_486 : (Jvm.Cond.selects "RegretLocks" ({ cls := "RegretLocks", name := "sets", desc := "(III)I" } : Jvm.MethodName) ({ cls := "RegretLocks", name := "sets", desc := "(III)I" } : Jvm.MethodName)) ∈ zT := zTm 486 (by decide +kernel) rfl
theorem tw_487 : (Jvm.Cond.code ({ cls := "RegretLocks", name := "sets", desc := "(III)I" } : Jvm.MethodName) prog_1_method_9_code (6 : Nat) (Option.some Jvm.ClassFile.FieldType.int)) ∈ zT := zTm 487 (by decide +kernel) rfl
theorem tw_488 : (Jvm.Cond.methodLink "RegretLocks" (155 : Nat) ({ cls := "RegretLocks", name := "fitsLock", desc := "(II)Z" } : Jvm.MethodName)) ∈ zT := zTm 488 (by decide +kernel) rfl
theorem tw_489 : (Jvm.Cond.static ({ cls := "RegretLocks", name := "fitsLock", desc := "(II)Z" } : Jvm.MethodName)) ∈ zT := zTm 489 (by decide +kernel) rfl
theorem tw_490 : (Jvm.Cond.code ({ cls := "RegretLocks", name := "fitsLock", desc := "(II)Z" } : Jvm.MethodName) prog_1_method_58_code (2 : Nat) (Option.some Jvm.ClassFile.FieldType.boolean)) ∈ zT := zTm 490 (by decide +kernel) rfl
theorem tw_491 : (Jvm.Cond.methodLink "RegretLocksLaw" (49 : Nat) ({ cls := "RegretLocks", name := "mends", desc := "(I)I" } : Jvm.MethodName)) ∈ zT := zTm 491 (by decide +kernel) rfl
theorem tw_492 : (Jvm.Cond.instanceMethod ({ cls := "RegretLocks", name := "mends", desc := "(I)I" } : Jvm.MethodName)) ∈ zT := zTm 492 (by decide +kernel) rfl
theorem tw_493 : (Jvm.Cond.selects "RegretLocks" ({ cls := "RegretLocks", name := "mends", desc := "(I)I" } : Jvm.MethodName) ({ cls := "RegretLocks", name := "mends", desc := "(I)I" } : Jvm.MethodName)) ∈ zT := zTm 493 (by decide +kernel) rfl
theorem tw_494 : (Jvm.Cond.code ({ cls := "RegretLocks", name := "mends", desc := "(I)I" } : Jvm.MethodName) prog_1_method_10_code (2 : Nat) (Option.some Jvm.ClassFile.FieldType.int)) ∈ zT := zTm 494 (by decide +kernel) rfl
theorem tw_495 : (Jvm.Cond.constant "RegretLocks" (158 : Nat) (-1000000002 : Int32)) ∈ zT := zTm 495 (by decide +kernel) rfl
theorem tw_496 : (Jvm.Cond.methodLink "RegretLocksLaw" (54 : Nat) ({ cls := "RegretLocks", name := "rule", desc := "(II)I" } : Jvm.MethodName)) ∈ zT := zTm 496 (by decide +kernel) rfl
theorem tw_497 : (Jvm.Cond.instanceMethod ({ cls := "RegretLocks", name := "rule", desc := "(II)I" } : Jvm.MethodName)) ∈ zT := zTm 497 (by decide +kernel) rfl
theorem tw_498 : (Jvm.Cond.selects "RegretLocks" ({ cls := "RegretLocks", name := "rule", desc := "(II)I" } : Jvm.MethodName) ({ cls := "RegretLocks", name := "rule", desc := "(II)I" } : Jvm.MethodName)) ∈ zT := zTm 498 (by decide +kernel) rfl
theorem tw_499 : (Jvm.Cond.code ({ cls := "RegretLocks", name := "rule", desc := "(II)I" } : Jvm.MethodName) prog_1_method_11_code (4 : Nat) (Option.some Jvm.ClassFile.FieldType.int)) ∈ zT := zTm 499 (by decide +kernel) rfl
theorem tw_500 : (Jvm.Cond.methodLink "RegretLocksLaw" (58 : Nat) ({ cls := "RegretLocks", name := "at", desc := "(I)I" } : Jvm.MethodName)) ∈ zT := zTm 500 (by decide +kernel) rfl
theorem tw_501 : (Jvm.Cond.instanceMethod ({ cls := "RegretLocks", name := "at", desc := "(I)I" } : Jvm.MethodName)) ∈ zT := zTm 501 (by decide +kernel) rfl
theorem tw_502 : (Jvm.Cond.selects "RegretLocks" ({ cls := "RegretLocks", name := "at", desc := "(I)I" } : Jvm.MethodName) ({ cls := "RegretLocks", name := "at", desc := "(I)I" } : Jvm.MethodName)) ∈ zT := zTm 502 (by decide +kernel) rfl
theorem tw_503 : (Jvm.Cond.code ({ cls := "RegretLocks", name := "at", desc := "(I)I" } : Jvm.MethodName) prog_1_method_12_code (4 : Nat) (Option.some Jvm.ClassFile.FieldType.int)) ∈ zT := zTm 503 (by decide +kernel) rfl
theorem tw_504 : (Jvm.Cond.methodLink "RegretLocksLaw" (62 : Nat) ({ cls := "RegretLocks", name := "deal", desc := "(I)I" } : Jvm.MethodName)) ∈ zT := zTm 504 (by decide +kernel) rfl
theorem tw_505 : (Jvm.Cond.instanceMethod ({ cls := "RegretLocks", name := "deal", desc := "(I)I" } : Jvm.MethodName)) ∈ zT := zTm 505 (by decide +kernel) rfl
theorem tw_506 : (Jvm.Cond.selects "RegretLocks" ({ cls := "RegretLocks", name := "deal", desc := "(I)I" } : Jvm.MethodName) ({ cls := "RegretLocks", name := "deal", desc := "(I)I" } : Jvm.MethodName)) ∈ zT := zTm 506 (by decide +kernel) rfl
theorem tw_507 : (Jvm.Cond.code ({ cls := "RegretLocks", name := "deal", desc := "(I)I" } : Jvm.MethodName) prog_1_method_13_code (4 : Nat) (Option.some Jvm.ClassFile.FieldType.int)) ∈ zT := zTm 507 (by decide +kernel) rfl
theorem tw_508 : (Jvm.Cond.methodLink "RegretLocks" (165 : Nat) ({ cls := "java/lang/Math", name := "min", desc := "(II)I" } : Jvm.MethodName)) ∈ zT := zTm 508 (by decide +kernel) rfl
theorem tw_509 : (Jvm.Cond.static ({ cls := "java/lang/Math", name := "min", desc := "(II)I" } : Jvm.MethodName)) ∈ zT := zTm 509 (by decide +kernel) rfl
theorem tw_510 : (Jvm.Cond.code ({ cls := "java/lang/Math", name := "min", desc := "(II)I" } : Jvm.MethodName) prog_15_method_69_code (2 : Nat) (Option.some Jvm.ClassFile.FieldType.int)) ∈ zT := zTm 510 (by decide +kernel) rfl
theorem tw_511 : (Jvm.Cond.methodLink "RegretLocks" (171 : Nat) ({ cls := "RegretLocks$Town", name := "drawPerson", desc := "()V" } : Jvm.MethodName)) ∈ zT := zTm 511 (by decide +kernel) rfl
theorem tw_512 : (Jvm.Cond.instanceMethod ({ cls := "RegretLocks$Town", name := "drawPerson", desc := "()V" } : Jvm.MethodName)) ∈ zT := zTm 512 (by decide +kernel) rfl
theorem tw_513 : (Jvm.Cond.selects "RegretLocks$Town" ({ cls := "RegretLocks$Town", name := "drawPerson", desc := "()V" } : Jvm.MethodName) ({ cls := "RegretLocks$Town", name := "drawPerson", desc := "()V" } : Jvm.MethodName)) ∈ zT := zTm 513 (by decide +kernel) rfl
theorem tw_514 : (Jvm.Cond.code ({ cls := "RegretLocks$Town", name := "drawPerson", desc := "()V" } : Jvm.MethodName) prog_9_method_4_code (6 : Nat) (Option.none : Option Jvm.ClassFile.FieldType)) ∈ zT := zTm 514 (by decide +kernel) rfl
theorem tw_515 : (Jvm.Cond.methodLink "RegretLocks$Town" (73 : Nat) ({ cls := "RegretLocks$Town", name := "draw", desc := "()I" } : Jvm.MethodName)) ∈ zT := zTm 515 (by decide +kernel) rfl
theorem tw_516 : (Jvm.Cond.instanceMethod ({ cls := "RegretLocks$Town", name := "draw", desc := "()I" } : Jvm.MethodName)) ∈ zT := zTm 516 (by decide +kernel) rfl
theorem tw_517 : (Jvm.Cond.selects "RegretLocks$Town" ({ cls := "RegretLocks$Town", name := "draw", desc := "()I" } : Jvm.MethodName) ({ cls := "RegretLocks$Town", name := "draw", desc := "()I" } : Jvm.MethodName)) ∈ zT := zTm 517 (by decide +kernel) rfl
theorem tw_518 : (Jvm.Cond.code ({ cls := "RegretLocks$Town", name := "draw", desc := "()I" } : Jvm.MethodName) prog_9_method_3_code (1 : Nat) (Option.some Jvm.ClassFile.FieldType.int)) ∈ zT := zTm 518 (by decide +kernel) rfl
theorem tw_519 : (Jvm.Cond.constant "RegretLocks$Town" (72 : Nat) (1103515245 : Int32)) ∈ zT := zTm 519 (by decide +kernel) rfl
theorem tw_520 : (Jvm.Cond.methodLink "RegretLocks$Town" (79 : Nat) ({ cls := "RegretLocks$Person", name := "become", desc := "(IIIII)V" } : Jvm.MethodName)) ∈ zT := zTm 520 (by decide +kernel) rfl
theorem tw_521 : (Jvm.Cond.methodLink "RegretLocksLaw" (66 : Nat) ({ cls := "RegretLocks", name := "seed", desc := "(I)I" } : Jvm.MethodName)) ∈ zT := zTm 521 (by decide +kernel) rfl
theorem tw_522 : (Jvm.Cond.instanceMethod ({ cls := "RegretLocks", name := "seed", desc := "(I)I" } : Jvm.MethodName)) ∈ zT := zTm 522 (by decide +kernel) rfl
theorem tw_523 : (Jvm.Cond.selects "RegretLocks" ({ cls := "RegretLocks", name := "seed", desc := "(I)I" } : Jvm.MethodName) ({ cls := "RegretLocks", name := "seed", desc := "(I)I" } : Jvm.MethodName)) ∈ zT := zTm 523 (by decide +kernel) rfl
theorem tw_524 : (Jvm.Cond.code ({ cls := "RegretLocks", name := "seed", desc := "(I)I" } : Jvm.MethodName) prog_1_method_14_code (3 : Nat) (Option.some Jvm.ClassFile.FieldType.int)) ∈ zT := zTm 524 (by decide +kernel) rfl
theorem tw_525 : (Jvm.Cond.methodLink "RegretLocksLaw" (70 : Nat) ({ cls := "RegretLocks", name := "passes", desc := "(II)I" } : Jvm.MethodName)) ∈ zT := zTm 525 (by decide +kernel) rfl
theorem tw_526 : (Jvm.Cond.instanceMethod ({ cls := "RegretLocks", name := "passes", desc := "(II)I" } : Jvm.MethodName)) ∈ zT := zTm 526 (by decide +kernel) rfl
theorem tw_527 : (Jvm.Cond.selects "RegretLocks" ({ cls := "RegretLocks", name := "passes", desc := "(II)I" } : Jvm.MethodName) ({ cls := "RegretLocks", name := "passes", desc := "(II)I" } : Jvm.MethodName)) ∈ zT := zTm 527 (by decide +kernel) rfl
theorem tw_528 : (Jvm.Cond.code ({ cls := "RegretLocks", name := "passes", desc := "(II)I" } : Jvm.MethodName) prog_1_method_15_code (5 : Nat) (Option.some Jvm.ClassFile.FieldType.int)) ∈ zT := zTm 528 (by decide +kernel) rfl
theorem tw_529 : (Jvm.Cond.methodLink "RegretLocks" (177 : Nat) ({ cls := "RegretLocks$Lock", name := "opensFor", desc := "(LRegretLocks$Person;)Z" } : Jvm.MethodName)) ∈ zT := zTm 529 (by decide +kernel) rfl
theorem tw_530 : (Jvm.Cond.instanceMethod ({ cls := "RegretLocks$Lock", name := "opensFor", desc := "(LRegretLocks$Person;)Z" } : Jvm.MethodName)) ∈ zT := zTm 530 (by decide +kernel) rfl
theorem tw_531 : (Jvm.Cond.selects "RegretLocks$Lock" ({ cls := "RegretLocks$Lock", name := "opensFor", desc := "(LRegretLocks$Person;)Z" } : Jvm.MethodName) ({ cls := "RegretLocks$Lock", name := "opensFor", desc := "(LRegretLocks$Person;)Z" } : Jvm.MethodName)) ∈ zT := zTm 531 (by decide +kernel) rfl
theorem tw_532 : (Jvm.Cond.code ({ cls := "RegretLocks$Lock", name := "opensFor", desc := "(LRegretLocks$Person;)Z" } : Jvm.MethodName) prog_3_method_4_code (2 : Nat) (Option.some Jvm.ClassFile.FieldType.boolean)) ∈ zT := zTm 532 (by decide +kernel) rfl
theorem tw_533 : (Jvm.Cond.methodLink "RegretLocks$Lock" (30 : Nat) ({ cls := "RegretLocks$Person", name := "feelsOf", desc := "(I)I" } : Jvm.MethodName)) ∈ zT := zTm 533 (by decide +kernel) rfl
theorem tw_534 : (Jvm.Cond.methodLink "RegretLocks" (181 : Nat) ({ cls := "RegretLocks$Town", name := "goThrough", desc := "(LRegretLocks$Person;LRegretLocks$Lock;)V" } : Jvm.MethodName)) ∈ zT := zTm 534 (by decide +kernel) rfl
theorem tw_535 : (Jvm.Cond.instanceMethod ({ cls := "RegretLocks$Town", name := "goThrough", desc := "(LRegretLocks$Person;LRegretLocks$Lock;)V" } : Jvm.MethodName)) ∈ zT := zTm 535 (by decide +kernel) rfl
theorem tw_536 : (Jvm.Cond.selects "RegretLocks$Town" ({ cls := "RegretLocks$Town", name := "goThrough", desc := "(LRegretLocks$Person;LRegretLocks$Lock;)V" } : Jvm.MethodName) ({ cls := "RegretLocks$Town", name := "goThrough", desc := "(LRegretLocks$Person;LRegretLocks$Lock;)V" } : Jvm.MethodName)) ∈ zT := zTm 536 (by decide +kernel) rfl
theorem tw_537 : (Jvm.Cond.code ({ cls := "RegretLocks$Town", name := "goThrough", desc := "(LRegretLocks$Person;LRegretLocks$Lock;)V" } : Jvm.MethodName) prog_9_method_8_code (3 : Nat) (Option.none : Option Jvm.ClassFile.FieldType)) ∈ zT := zTm 537 (by decide +kernel) rfl
theorem tw_538 : (Jvm.Cond.methodLink "RegretLocks$Town" (130 : Nat) ({ cls := "RegretLocks$Town", name := "leftOf", desc := "(III)I" } : Jvm.MethodName)) ∈ zT := zTm 538 (by decide +kernel) rfl
theorem tw_539 : (Jvm.Cond.instanceMethod ({ cls := "RegretLocks$Town", name := "leftOf", desc := "(III)I" } : Jvm.MethodName)) ∈ zT := zTm 539 (by decide +kernel) rfl
theorem tw_540 : (Jvm.Cond.selects "RegretLocks$Town" ({ cls := "RegretLocks$Town", name := "leftOf", desc := "(III)I" } : Jvm.MethodName) ({ cls := "RegretLocks$Town", name := "leftOf", desc := "(III)I" } : Jvm.MethodName)) ∈ zT := zTm 540 (by decide +kernel) rfl
theorem tw_541 : (Jvm.Cond.code ({ cls := "RegretLocks$Town", name := "leftOf", desc := "(III)I" } : Jvm.MethodName) prog_9_method_9_code (6 : Nat) (Option.some Jvm.ClassFile.FieldType.int)) ∈ zT := zTm 541 (by decide +kernel) rfl
theorem tw_542 : (Jvm.Cond.methodLink "RegretLocks$Town" (137 : Nat) ({ cls := "RegretLocks$Text", name := "value", desc := "(III)I" } : Jvm.MethodName)) ∈ zT := zTm 542 (by decide +kernel) rfl
theorem tw_543 : (Jvm.Cond.instanceMethod ({ cls := "RegretLocks$Text", name := "value", desc := "(III)I" } : Jvm.MethodName)) ∈ zT := zTm 543 (by decide +kernel) rfl
theorem tw_544 : (Jvm.Cond.selects "RegretLocks$Text" ({ cls := "RegretLocks$Text", name := "value", desc := "(III)I" } : Jvm.MethodName) ({ cls := "RegretLocks$Text", name := "value", desc := "(III)I" } : Jvm.MethodName)) ∈ zT := zTm 544 (by decide +kernel) rfl
theorem tw_545 : (Jvm.Cond.code ({ cls := "RegretLocks$Text", name := "value", desc := "(III)I" } : Jvm.MethodName) prog_8_method_2_code (8 : Nat) (Option.some Jvm.ClassFile.FieldType.int)) ∈ zT := zTm 545 (by decide +kernel) rfl
theorem tw_546 : (Jvm.Cond.methodLink "RegretLocks$Text" (26 : Nat) ({ cls := "RegretLocks$Text", name := "join", desc := "(III)I" } : Jvm.MethodName)) ∈ zT := zTm 546 (by decide +kernel) rfl
theorem tw_547 : (Jvm.Cond.static ({ cls := "RegretLocks$Text", name := "join", desc := "(III)I" } : Jvm.MethodName)) ∈ zT := zTm 547 (by decide +kernel) rfl
theorem tw_548 : (Jvm.Cond.code ({ cls := "RegretLocks$Text", name := "join", desc := "(III)I" } : Jvm.MethodName) prog_8_method_3_code (3 : Nat) (Option.some Jvm.ClassFile.FieldType.int)) ∈ zT := zTm 548 (by decide +kernel) rfl
theorem tw_550 : (Jvm.Cond.static ({ cls := "RegretLocks", name := "held", desc := "(II)I" } : Jvm.MethodName)) ∈ zT := zTm 550 (by decide +kernel) rfl
theorem tw_551 : (Jvm.Cond.code ({ cls := "RegretLocks", name := "held", desc := "(II)I" } : Jvm.MethodName) prog_1_method_59_code (2 : Nat) (Option.some Jvm.ClassFile.FieldType.int)) ∈ zT := zTm 551 (by decide +kernel) rfl
theorem tw_552 : (Jvm.Cond.methodLink "RegretLocks" (341 : Nat) ({ cls := "java/lang/Math", name := "max", desc := "(II)I" } : Jvm.MethodName)) ∈ zT := zTm 552 (by decide +kernel) rfl
theorem tw_553 : (Jvm.Cond.static ({ cls := "java/lang/Math", name := "max", desc := "(II)I" } : Jvm.MethodName)) ∈ zT := zTm 553 (by decide +kernel) rfl
theorem tw_554 : (Jvm.Cond.code ({ cls := "java/lang/Math", name := "max", desc := "(II)I" } : Jvm.MethodName) prog_15_method_65_code (2 : Nat) (Option.some Jvm.ClassFile.FieldType.int)) ∈ zT := zTm 554 (by decide +kernel) rfl
theorem tw_555 : (Jvm.Cond.methodLink "RegretLocks$Town" (144 : Nat) ({ cls := "RegretLocks$Kinds", name := "wears", desc := "(II)I" } : Jvm.MethodName)) ∈ zT := zTm 555 (by decide +kernel) rfl
theorem tw_556 : (Jvm.Cond.static ({ cls := "RegretLocks$Kinds", name := "wears", desc := "(II)I" } : Jvm.MethodName)) ∈ zT := zTm 556 (by decide +kernel) rfl
theorem tw_557 : (Jvm.Cond.code ({ cls := "RegretLocks$Kinds", name := "wears", desc := "(II)I" } : Jvm.MethodName) prog_2_method_4_code (2 : Nat) (Option.some Jvm.ClassFile.FieldType.int)) ∈ zT := zTm 557 (by decide +kernel) rfl
theorem tw_558 : (Jvm.Cond.methodLink "RegretLocks$Town" (147 : Nat) ({ cls := "java/lang/Math", name := "max", desc := "(II)I" } : Jvm.MethodName)) ∈ zT := zTm 558 (by decide +kernel) rfl
theorem tw_559 : (Jvm.Cond.methodLink "RegretLocksLaw" (74 : Nat) ({ cls := "RegretLocks", name := "days", desc := "(I)I" } : Jvm.MethodName)) ∈ zT := zTm 559 (by decide +kernel) rfl
theorem tw_560 : (Jvm.Cond.instanceMethod ({ cls := "RegretLocks", name := "days", desc := "(I)I" } : Jvm.MethodName)) ∈ zT := zTm 560 (by decide +kernel) rfl
theorem tw_561 : (Jvm.Cond.selects "RegretLocks" ({ cls := "RegretLocks", name := "days", desc := "(I)I" } : Jvm.MethodName) ({ cls := "RegretLocks", name := "days", desc := "(I)I" } : Jvm.MethodName)) ∈ zT := zTm 561 (by decide +kernel) rfl
theorem tw_562 : (Jvm.Cond.code ({ cls := "RegretLocks", name := "days", desc := "(I)I" } : Jvm.MethodName) prog_1_method_16_code (5 : Nat) (Option.some Jvm.ClassFile.FieldType.int)) ∈ zT := zTm 562 (by decide +kernel) rfl
theorem tw_563 : (Jvm.Cond.methodLink "RegretLocks" (191 : Nat) ({ cls := "RegretLocks$Town", name := "liveDay", desc := "()V" } : Jvm.MethodName)) ∈ zT := zTm 563 (by decide +kernel) rfl
theorem tw_564 : (Jvm.Cond.instanceMethod ({ cls := "RegretLocks$Town", name := "liveDay", desc := "()V" } : Jvm.MethodName)) ∈ zT := zTm 564 (by decide +kernel) rfl
theorem tw_565 : (Jvm.Cond.selects "RegretLocks$Town" ({ cls := "RegretLocks$Town", name := "liveDay", desc := "()V" } : Jvm.MethodName) ({ cls := "RegretLocks$Town", name := "liveDay", desc := "()V" } : Jvm.MethodName)) ∈ zT := zTm 565 (by decide +kernel) rfl
theorem tw_566 : (Jvm.Cond.code ({ cls := "RegretLocks$Town", name := "liveDay", desc := "()V" } : Jvm.MethodName) prog_9_method_5_code (2 : Nat) (Option.none : Option Jvm.ClassFile.FieldType)) ∈ zT := zTm 566 (by decide +kernel) rfl
theorem tw_567 : (Jvm.Cond.methodLink "RegretLocks$Town" (86 : Nat) ({ cls := "RegretLocks$Town", name := "tryFalsely", desc := "(LRegretLocks$Person;)V" } : Jvm.MethodName)) ∈ zT := zTm 567 (by decide +kernel) rfl
theorem tw_569 : (Jvm.Cond.instanceMethod ({ cls := "RegretLocks$Town", name := "tryFalsely", desc := "(LRegretLocks$Person;)V" } : Jvm.MethodName)) ∈ zT := zTm 569 (by decide +kernel) rfl
theorem tw_570 : (Jvm.Cond.code ({ cls := "RegretLocks$Town", name := "tryFalsely", desc := "(LRegretLocks$Person;)V" } : Jvm.MethodName) prog_9_method_6_code (3 : Nat) (Option.none : Option Jvm.ClassFile.FieldType)) ∈ zT := zTm 570 (by decide +kernel) rfl
theorem tw_571 : (Jvm.Cond.methodLink "RegretLocks$Town" (89 : Nat) ({ cls := "RegretLocks$Town", name := "goOn", desc := "(LRegretLocks$Person;)V" } : Jvm.MethodName)) ∈ zT := zTm 571 (by decide +kernel) rfl
theorem tw_573 : (Jvm.Cond.instanceMethod ({ cls := "RegretLocks$Town", name := "goOn", desc := "(LRegretLocks$Person;)V" } : Jvm.MethodName)) ∈ zT := zTm 573 (by decide +kernel) rfl
theorem tw_574 : (Jvm.Cond.code ({ cls := "RegretLocks$Town", name := "goOn", desc := "(LRegretLocks$Person;)V" } : Jvm.MethodName) prog_9_method_7_code (3 : Nat) (Option.none : Option Jvm.ClassFile.FieldType)) ∈ zT := zTm 574 (by decide +kernel) rfl
theorem tw_575 : (Jvm.Cond.methodLink "RegretLocks$Town" (111 : Nat) ({ cls := "RegretLocks$Lock", name := "opensFor", desc := "(LRegretLocks$Person;)Z" } : Jvm.MethodName)) ∈ zT := zTm 575 (by decide +kernel) rfl
theorem tw_576 : (Jvm.Cond.methodLink "RegretLocks$Town" (115 : Nat) ({ cls := "RegretLocks$Town", name := "goThrough", desc := "(LRegretLocks$Person;LRegretLocks$Lock;)V" } : Jvm.MethodName)) ∈ zT := zTm 576 (by decide +kernel) rfl
theorem tw_577 : (Jvm.Cond.methodLink "RegretLocks$Town" (119 : Nat) ({ cls := "RegretLocks$Person", name := "regretMore", desc := "(II)V" } : Jvm.MethodName)) ∈ zT := zTm 577 (by decide +kernel) rfl
theorem tw_578 : (Jvm.Cond.instanceMethod ({ cls := "RegretLocks$Person", name := "regretMore", desc := "(II)V" } : Jvm.MethodName)) ∈ zT := zTm 578 (by decide +kernel) rfl
theorem tw_579 : (Jvm.Cond.selects "RegretLocks$Person" ({ cls := "RegretLocks$Person", name := "regretMore", desc := "(II)V" } : Jvm.MethodName) ({ cls := "RegretLocks$Person", name := "regretMore", desc := "(II)V" } : Jvm.MethodName)) ∈ zT := zTm 579 (by decide +kernel) rfl
theorem tw_580 : (Jvm.Cond.code ({ cls := "RegretLocks$Person", name := "regretMore", desc := "(II)V" } : Jvm.MethodName) prog_5_method_7_code (3 : Nat) (Option.none : Option Jvm.ClassFile.FieldType)) ∈ zT := zTm 580 (by decide +kernel) rfl
theorem tw_581 : (Jvm.Cond.methodLink "RegretLocks$Person" (39 : Nat) ({ cls := "java/lang/Math", name := "min", desc := "(II)I" } : Jvm.MethodName)) ∈ zT := zTm 581 (by decide +kernel) rfl
theorem tw_582 : (Jvm.Cond.methodLink "RegretLocks$Town" (92 : Nat) ({ cls := "RegretLocks$Town", name := "sufferDeed", desc := "()V" } : Jvm.MethodName)) ∈ zT := zTm 582 (by decide +kernel) rfl
theorem tw_584 : (Jvm.Cond.instanceMethod ({ cls := "RegretLocks$Town", name := "sufferDeed", desc := "()V" } : Jvm.MethodName)) ∈ zT := zTm 584 (by decide +kernel) rfl
theorem tw_585 : (Jvm.Cond.code ({ cls := "RegretLocks$Town", name := "sufferDeed", desc := "()V" } : Jvm.MethodName) prog_9_method_10_code (3 : Nat) (Option.none : Option Jvm.ClassFile.FieldType)) ∈ zT := zTm 585 (by decide +kernel) rfl
theorem tw_586 : (Jvm.Cond.methodLink "RegretLocks$Town" (95 : Nat) ({ cls := "RegretLocks$Town", name := "sufferPardon", desc := "()V" } : Jvm.MethodName)) ∈ zT := zTm 586 (by decide +kernel) rfl
theorem tw_588 : (Jvm.Cond.instanceMethod ({ cls := "RegretLocks$Town", name := "sufferPardon", desc := "()V" } : Jvm.MethodName)) ∈ zT := zTm 588 (by decide +kernel) rfl
theorem tw_589 : (Jvm.Cond.code ({ cls := "RegretLocks$Town", name := "sufferPardon", desc := "()V" } : Jvm.MethodName) prog_9_method_11_code (1 : Nat) (Option.none : Option Jvm.ClassFile.FieldType)) ∈ zT := zTm 589 (by decide +kernel) rfl
theorem tw_590 : (Jvm.Cond.methodLink "RegretLocks$Town" (152 : Nat) ({ cls := "RegretLocks$Person", name := "regretHalf", desc := "()V" } : Jvm.MethodName)) ∈ zT := zTm 590 (by decide +kernel) rfl
theorem tw_591 : (Jvm.Cond.instanceMethod ({ cls := "RegretLocks$Person", name := "regretHalf", desc := "()V" } : Jvm.MethodName)) ∈ zT := zTm 591 (by decide +kernel) rfl
theorem tw_592 : (Jvm.Cond.selects "RegretLocks$Person" ({ cls := "RegretLocks$Person", name := "regretHalf", desc := "()V" } : Jvm.MethodName) ({ cls := "RegretLocks$Person", name := "regretHalf", desc := "()V" } : Jvm.MethodName)) ∈ zT := zTm 592 (by decide +kernel) rfl
theorem tw_593 : (Jvm.Cond.code ({ cls := "RegretLocks$Person", name := "regretHalf", desc := "()V" } : Jvm.MethodName) prog_5_method_8_code (2 : Nat) (Option.none : Option Jvm.ClassFile.FieldType)) ∈ zT := zTm 593 (by decide +kernel) rfl
theorem tw_594 : (Jvm.Cond.methodLink "RegretLocks$Town" (98 : Nat) ({ cls := "RegretLocks$Town", name := "mendAll", desc := "()V" } : Jvm.MethodName)) ∈ zT := zTm 594 (by decide +kernel) rfl
theorem tw_596 : (Jvm.Cond.instanceMethod ({ cls := "RegretLocks$Town", name := "mendAll", desc := "()V" } : Jvm.MethodName)) ∈ zT := zTm 596 (by decide +kernel) rfl
theorem tw_597 : (Jvm.Cond.code ({ cls := "RegretLocks$Town", name := "mendAll", desc := "()V" } : Jvm.MethodName) prog_9_method_12_code (2 : Nat) (Option.none : Option Jvm.ClassFile.FieldType)) ∈ zT := zTm 597 (by decide +kernel) rfl
theorem tw_598 : (Jvm.Cond.methodLink "RegretLocksLaw" (78 : Nat) ({ cls := "RegretLocks", name := "town", desc := "(I)I" } : Jvm.MethodName)) ∈ zT := zTm 598 (by decide +kernel) rfl
theorem tw_599 : (Jvm.Cond.instanceMethod ({ cls := "RegretLocks", name := "town", desc := "(I)I" } : Jvm.MethodName)) ∈ zT := zTm 599 (by decide +kernel) rfl
theorem tw_600 : (Jvm.Cond.selects "RegretLocks" ({ cls := "RegretLocks", name := "town", desc := "(I)I" } : Jvm.MethodName) ({ cls := "RegretLocks", name := "town", desc := "(I)I" } : Jvm.MethodName)) ∈ zT := zTm 600 (by decide +kernel) rfl
theorem tw_601 : (Jvm.Cond.code ({ cls := "RegretLocks", name := "town", desc := "(I)I" } : Jvm.MethodName) prog_1_method_17_code (2 : Nat) (Option.some Jvm.ClassFile.FieldType.int)) ∈ zT := zTm 601 (by decide +kernel) rfl
theorem tw_602 : (Jvm.Cond.methodLink "RegretLocks" (200 : Nat) ({ cls := "RegretLocks$Town", name := "allRegrets", desc := "()I" } : Jvm.MethodName)) ∈ zT := zTm 602 (by decide +kernel) rfl
theorem tw_603 : (Jvm.Cond.instanceMethod ({ cls := "RegretLocks$Town", name := "allRegrets", desc := "()I" } : Jvm.MethodName)) ∈ zT := zTm 603 (by decide +kernel) rfl
theorem tw_604 : (Jvm.Cond.selects "RegretLocks$Town" ({ cls := "RegretLocks$Town", name := "allRegrets", desc := "()I" } : Jvm.MethodName) ({ cls := "RegretLocks$Town", name := "allRegrets", desc := "()I" } : Jvm.MethodName)) ∈ zT := zTm 604 (by decide +kernel) rfl
theorem tw_605 : (Jvm.Cond.code ({ cls := "RegretLocks$Town", name := "allRegrets", desc := "()I" } : Jvm.MethodName) prog_9_method_13_code (3 : Nat) (Option.some Jvm.ClassFile.FieldType.int)) ∈ zT := zTm 605 (by decide +kernel) rfl
theorem tw_606 : (Jvm.Cond.methodLink "RegretLocks$Town" (155 : Nat) ({ cls := "RegretLocks$Person", name := "allRegrets", desc := "()I" } : Jvm.MethodName)) ∈ zT := zTm 606 (by decide +kernel) rfl
theorem tw_607 : (Jvm.Cond.methodLink "RegretLocks" (203 : Nat) ({ cls := "RegretLocks$Town", name := "jammedLocks", desc := "()I" } : Jvm.MethodName)) ∈ zT := zTm 607 (by decide +kernel) rfl
theorem tw_608 : (Jvm.Cond.instanceMethod ({ cls := "RegretLocks$Town", name := "jammedLocks", desc := "()I" } : Jvm.MethodName)) ∈ zT := zTm 608 (by decide +kernel) rfl
theorem tw_609 : (Jvm.Cond.selects "RegretLocks$Town" ({ cls := "RegretLocks$Town", name := "jammedLocks", desc := "()I" } : Jvm.MethodName) ({ cls := "RegretLocks$Town", name := "jammedLocks", desc := "()I" } : Jvm.MethodName)) ∈ zT := zTm 609 (by decide +kernel) rfl
theorem tw_610 : (Jvm.Cond.code ({ cls := "RegretLocks$Town", name := "jammedLocks", desc := "()I" } : Jvm.MethodName) prog_9_method_14_code (3 : Nat) (Option.some Jvm.ClassFile.FieldType.int)) ∈ zT := zTm 610 (by decide +kernel) rfl
theorem tw_611 : (Jvm.Cond.methodLink "RegretLocksLaw" (82 : Nat) ({ cls := "RegretLocks", name := "reach", desc := "(I)I" } : Jvm.MethodName)) ∈ zT := zTm 611 (by decide +kernel) rfl
theorem tw_612 : (Jvm.Cond.instanceMethod ({ cls := "RegretLocks", name := "reach", desc := "(I)I" } : Jvm.MethodName)) ∈ zT := zTm 612 (by decide +kernel) rfl
theorem tw_613 : (Jvm.Cond.selects "RegretLocks" ({ cls := "RegretLocks", name := "reach", desc := "(I)I" } : Jvm.MethodName) ({ cls := "RegretLocks", name := "reach", desc := "(I)I" } : Jvm.MethodName)) ∈ zT := zTm 613 (by decide +kernel) rfl
theorem tw_614 : (Jvm.Cond.code ({ cls := "RegretLocks", name := "reach", desc := "(I)I" } : Jvm.MethodName) prog_1_method_18_code (2 : Nat) (Option.some Jvm.ClassFile.FieldType.int)) ∈ zT := zTm 614 (by decide +kernel) rfl
theorem tw_615 : (Jvm.Cond.methodLink "RegretLocks" (206 : Nat) ({ cls := "RegretLocks$Ways", name := "find", desc := "(LRegretLocks$Town;LRegretLocks$Person;Z)V" } : Jvm.MethodName)) ∈ zT := zTm 615 (by decide +kernel) rfl
theorem tw_616 : (Jvm.Cond.instanceMethod ({ cls := "RegretLocks$Ways", name := "find", desc := "(LRegretLocks$Town;LRegretLocks$Person;Z)V" } : Jvm.MethodName)) ∈ zT := zTm 616 (by decide +kernel) rfl
theorem tw_617 : (Jvm.Cond.selects "RegretLocks$Ways" ({ cls := "RegretLocks$Ways", name := "find", desc := "(LRegretLocks$Town;LRegretLocks$Person;Z)V" } : Jvm.MethodName) ({ cls := "RegretLocks$Ways", name := "find", desc := "(LRegretLocks$Town;LRegretLocks$Person;Z)V" } : Jvm.MethodName)) ∈ zT := zTm 617 (by decide +kernel) rfl
theorem tw_618 : (Jvm.Cond.code ({ cls := "RegretLocks$Ways", name := "find", desc := "(LRegretLocks$Town;LRegretLocks$Person;Z)V" } : Jvm.MethodName) prog_10_method_2_code (7 : Nat) (Option.none : Option Jvm.ClassFile.FieldType)) ∈ zT := zTm 618 (by decide +kernel) rfl
theorem tw_619 : (Jvm.Cond.constant "RegretLocks$Ways" (26 : Nat) (-1000000005 : Int32)) ∈ zT := zTm 619 (by decide +kernel) rfl
theorem tw_620 : (Jvm.Cond.methodLink "RegretLocks$Ways" (27 : Nat) ({ cls := "java/util/Arrays", name := "fill", desc := "([II)V" } : Jvm.MethodName)) ∈ zT := zTm 620 (by decide +kernel) rfl
theorem tw_621 : (Jvm.Cond.static ({ cls := "java/util/Arrays", name := "fill", desc := "([II)V" } : Jvm.MethodName)) ∈ zT := zTm 621 (by decide +kernel) rfl
theorem tw_622 : (Jvm.Cond.code ({ cls := "java/util/Arrays", name := "fill", desc := "([II)V" } : Jvm.MethodName) prog_20_method_103_code (4 : Nat) (Option.none : Option Jvm.ClassFile.FieldType)) ∈ zT := zTm 622 (by decide +kernel) rfl
theorem tw_623 : (Jvm.Cond.methodLink "RegretLocks$Ways" (33 : Nat) ({ cls := "RegretLocks$Ways", name := "wearAll", desc := "(LRegretLocks$Town;LRegretLocks$Person;Z)V" } : Jvm.MethodName)) ∈ zT := zTm 623 (by decide +kernel) rfl
theorem tw_625 : (Jvm.Cond.instanceMethod ({ cls := "RegretLocks$Ways", name := "wearAll", desc := "(LRegretLocks$Town;LRegretLocks$Person;Z)V" } : Jvm.MethodName)) ∈ zT := zTm 625 (by decide +kernel) rfl
theorem tw_626 : (Jvm.Cond.code ({ cls := "RegretLocks$Ways", name := "wearAll", desc := "(LRegretLocks$Town;LRegretLocks$Person;Z)V" } : Jvm.MethodName) prog_10_method_4_code (7 : Nat) (Option.none : Option Jvm.ClassFile.FieldType)) ∈ zT := zTm 626 (by decide +kernel) rfl
theorem tw_627 : (Jvm.Cond.methodLink "RegretLocks$Ways" (53 : Nat) ({ cls := "RegretLocks$Kinds", name := "feels", desc := "(II)I" } : Jvm.MethodName)) ∈ zT := zTm 627 (by decide +kernel) rfl
theorem tw_628 : (Jvm.Cond.methodLink "RegretLocks$Ways" (59 : Nat) ({ cls := "RegretLocks$Town", name := "leftOf", desc := "(III)I" } : Jvm.MethodName)) ∈ zT := zTm 628 (by decide +kernel) rfl
theorem tw_629 : (Jvm.Cond.methodLink "RegretLocks$Ways" (43 : Nat) ({ cls := "RegretLocks$Ways", name := "goOnFrom", desc := "(LRegretLocks$Town;I)V" } : Jvm.MethodName)) ∈ zT := zTm 629 (by decide +kernel) rfl
theorem tw_631 : (Jvm.Cond.instanceMethod ({ cls := "RegretLocks$Ways", name := "goOnFrom", desc := "(LRegretLocks$Town;I)V" } : Jvm.MethodName)) ∈ zT := zTm 631 (by decide +kernel) rfl
theorem tw_632 : (Jvm.Cond.code ({ cls := "RegretLocks$Ways", name := "goOnFrom", desc := "(LRegretLocks$Town;I)V" } : Jvm.MethodName) prog_10_method_5_code (8 : Nat) (Option.none : Option Jvm.ClassFile.FieldType)) ∈ zT := zTm 632 (by decide +kernel) rfl
theorem tw_633 : (Jvm.Cond.fieldLink "RegretLocks$Ways" (65 : Nat) "RegretLocks$Ways" "STEPS" "[I") ∈ zT := zTm 633 (by decide +kernel) rfl
theorem tw_635 : (Jvm.Cond.methodLink "RegretLocks" (210 : Nat) ({ cls := "RegretLocks$Ways", name := "reached", desc := "()I" } : Jvm.MethodName)) ∈ zT := zTm 635 (by decide +kernel) rfl
theorem tw_636 : (Jvm.Cond.instanceMethod ({ cls := "RegretLocks$Ways", name := "reached", desc := "()I" } : Jvm.MethodName)) ∈ zT := zTm 636 (by decide +kernel) rfl
theorem tw_637 : (Jvm.Cond.selects "RegretLocks$Ways" ({ cls := "RegretLocks$Ways", name := "reached", desc := "()I" } : Jvm.MethodName) ({ cls := "RegretLocks$Ways", name := "reached", desc := "()I" } : Jvm.MethodName)) ∈ zT := zTm 637 (by decide +kernel) rfl
theorem tw_638 : (Jvm.Cond.code ({ cls := "RegretLocks$Ways", name := "reached", desc := "()I" } : Jvm.MethodName) prog_10_method_3_code (3 : Nat) (Option.some Jvm.ClassFile.FieldType.int)) ∈ zT := zTm 638 (by decide +kernel) rfl
theorem tw_639 : (Jvm.Cond.methodLink "RegretLocksLaw" (86 : Nat) ({ cls := "RegretLocks", name := "way", desc := "(II)I" } : Jvm.MethodName)) ∈ zT := zTm 639 (by decide +kernel) rfl
theorem tw_640 : (Jvm.Cond.instanceMethod ({ cls := "RegretLocks", name := "way", desc := "(II)I" } : Jvm.MethodName)) ∈ zT := zTm 640 (by decide +kernel) rfl
theorem tw_641 : (Jvm.Cond.selects "RegretLocks" ({ cls := "RegretLocks", name := "way", desc := "(II)I" } : Jvm.MethodName) ({ cls := "RegretLocks", name := "way", desc := "(II)I" } : Jvm.MethodName)) ∈ zT := zTm 641 (by decide +kernel) rfl
theorem tw_642 : (Jvm.Cond.code ({ cls := "RegretLocks", name := "way", desc := "(II)I" } : Jvm.MethodName) prog_1_method_19_code (3 : Nat) (Option.some Jvm.ClassFile.FieldType.int)) ∈ zT := zTm 642 (by decide +kernel) rfl
theorem tw_643 : (Jvm.Cond.methodLink "RegretLocksLaw" (90 : Nat) ({ cls := "RegretLocks", name := "pardoned", desc := "(I)I" } : Jvm.MethodName)) ∈ zT := zTm 643 (by decide +kernel) rfl
theorem tw_644 : (Jvm.Cond.instanceMethod ({ cls := "RegretLocks", name := "pardoned", desc := "(I)I" } : Jvm.MethodName)) ∈ zT := zTm 644 (by decide +kernel) rfl
theorem tw_645 : (Jvm.Cond.selects "RegretLocks" ({ cls := "RegretLocks", name := "pardoned", desc := "(I)I" } : Jvm.MethodName) ({ cls := "RegretLocks", name := "pardoned", desc := "(I)I" } : Jvm.MethodName)) ∈ zT := zTm 645 (by decide +kernel) rfl
theorem tw_646 : (Jvm.Cond.code ({ cls := "RegretLocks", name := "pardoned", desc := "(I)I" } : Jvm.MethodName) prog_1_method_20_code (2 : Nat) (Option.some Jvm.ClassFile.FieldType.int)) ∈ zT := zTm 646 (by decide +kernel) rfl
theorem tw_647 : (Jvm.Cond.methodLink "RegretLocksLaw" (94 : Nat) ({ cls := "RegretLocks", name := "just", desc := "(II)I" } : Jvm.MethodName)) ∈ zT := zTm 647 (by decide +kernel) rfl
theorem tw_648 : (Jvm.Cond.instanceMethod ({ cls := "RegretLocks", name := "just", desc := "(II)I" } : Jvm.MethodName)) ∈ zT := zTm 648 (by decide +kernel) rfl
theorem tw_649 : (Jvm.Cond.selects "RegretLocks" ({ cls := "RegretLocks", name := "just", desc := "(II)I" } : Jvm.MethodName) ({ cls := "RegretLocks", name := "just", desc := "(II)I" } : Jvm.MethodName)) ∈ zT := zTm 649 (by decide +kernel) rfl
theorem tw_650 : (Jvm.Cond.code ({ cls := "RegretLocks", name := "just", desc := "(II)I" } : Jvm.MethodName) prog_1_method_21_code (5 : Nat) (Option.some Jvm.ClassFile.FieldType.int)) ∈ zT := zTm 650 (by decide +kernel) rfl
theorem tw_651 : (Jvm.Cond.methodLink "RegretLocks" (216 : Nat) ({ cls := "RegretLocks$Town", name := "thoseWhoFeel", desc := "(II)I" } : Jvm.MethodName)) ∈ zT := zTm 651 (by decide +kernel) rfl
theorem tw_652 : (Jvm.Cond.constant "RegretLocks" (219 : Nat) (-1000000005 : Int32)) ∈ zT := zTm 652 (by decide +kernel) rfl
theorem tw_653 : (Jvm.Cond.methodLink "RegretLocksLaw" (98 : Nat) ({ cls := "RegretLocks", name := site_897.name, desc := "(II)I" } : Jvm.MethodName)) ∈ zT := zTm 653 (by decide +kernel) rfl
theorem tw_654 : (Jvm.Cond.instanceMethod ({ cls := "RegretLocks", name := site_897.name, desc := "(II)I" } : Jvm.MethodName)) ∈ zT := zTm 654 (by decide +kernel) rfl
theorem tw_655 : (Jvm.Cond.selects "RegretLocks" ({ cls := "RegretLocks", name := site_897.name, desc := "(II)I" } : Jvm.MethodName) ({ cls := "RegretLocks", name := site_897.name, desc := "(II)I" } : Jvm.MethodName)) ∈ zT := zTm 655 (by decide +kernel) rfl
theorem tw_656 : (Jvm.Cond.code ({ cls := "RegretLocks", name := site_897.name, desc := "(II)I" } : Jvm.MethodName) prog_1_method_22_code (7 : Nat) (Option.some Jvm.ClassFile.FieldType.int)) ∈ zT := zTm 656 (by decide +kernel) rfl
theorem tw_657 : (Jvm.Cond.methodLink "RegretLocks" (220 : Nat) ({ cls := "RegretLocks$Kinds", name := "feels", desc := "(II)I" } : Jvm.MethodName)) ∈ zT := zTm 657 (by decide +kernel) rfl
theorem tw_658 : (Jvm.Cond.methodLink "RegretLocksLaw" (102 : Nat) ({ cls := "RegretLocks", name := "behind", desc := "(II)I" } : Jvm.MethodName)) ∈ zT := zTm 658 (by decide +kernel) rfl
theorem tw_659 : (Jvm.Cond.instanceMethod ({ cls := "RegretLocks", name := "behind", desc := "(II)I" } : Jvm.MethodName)) ∈ zT := zTm 659 (by decide +kernel) rfl
theorem tw_660 : (Jvm.Cond.selects "RegretLocks" ({ cls := "RegretLocks", name := "behind", desc := "(II)I" } : Jvm.MethodName) ({ cls := "RegretLocks", name := "behind", desc := "(II)I" } : Jvm.MethodName)) ∈ zT := zTm 660 (by decide +kernel) rfl
theorem tw_661 : (Jvm.Cond.code ({ cls := "RegretLocks", name := "behind", desc := "(II)I" } : Jvm.MethodName) prog_1_method_23_code (4 : Nat) (Option.some Jvm.ClassFile.FieldType.int)) ∈ zT := zTm 661 (by decide +kernel) rfl
theorem tw_662 : (Jvm.Cond.methodLink "RegretLocks" (223 : Nat) ({ cls := "RegretLocks$Town", name := "becomeAs", desc := "(LRegretLocks$Town;)V" } : Jvm.MethodName)) ∈ zT := zTm 662 (by decide +kernel) rfl
theorem tw_663 : (Jvm.Cond.instanceMethod ({ cls := "RegretLocks$Town", name := "becomeAs", desc := "(LRegretLocks$Town;)V" } : Jvm.MethodName)) ∈ zT := zTm 663 (by decide +kernel) rfl
theorem tw_664 : (Jvm.Cond.selects "RegretLocks$Town" ({ cls := "RegretLocks$Town", name := "becomeAs", desc := "(LRegretLocks$Town;)V" } : Jvm.MethodName) ({ cls := "RegretLocks$Town", name := "becomeAs", desc := "(LRegretLocks$Town;)V" } : Jvm.MethodName)) ∈ zT := zTm 664 (by decide +kernel) rfl
theorem tw_665 : (Jvm.Cond.code ({ cls := "RegretLocks$Town", name := "becomeAs", desc := "(LRegretLocks$Town;)V" } : Jvm.MethodName) prog_9_method_2_code (3 : Nat) (Option.none : Option Jvm.ClassFile.FieldType)) ∈ zT := zTm 665 (by decide +kernel) rfl
theorem tw_666 : (Jvm.Cond.methodLink "RegretLocks$Town" (47 : Nat) ({ cls := "RegretLocks$Person", name := "becomeAs", desc := "(LRegretLocks$Person;)V" } : Jvm.MethodName)) ∈ zT := zTm 666 (by decide +kernel) rfl
theorem tw_667 : (Jvm.Cond.instanceMethod ({ cls := "RegretLocks$Person", name := "becomeAs", desc := "(LRegretLocks$Person;)V" } : Jvm.MethodName)) ∈ zT := zTm 667 (by decide +kernel) rfl
theorem tw_668 : (Jvm.Cond.selects "RegretLocks$Person" ({ cls := "RegretLocks$Person", name := "becomeAs", desc := "(LRegretLocks$Person;)V" } : Jvm.MethodName) ({ cls := "RegretLocks$Person", name := "becomeAs", desc := "(LRegretLocks$Person;)V" } : Jvm.MethodName)) ∈ zT := zTm 668 (by decide +kernel) rfl
theorem tw_669 : (Jvm.Cond.code ({ cls := "RegretLocks$Person", name := "becomeAs", desc := "(LRegretLocks$Person;)V" } : Jvm.MethodName) prog_5_method_3_code (2 : Nat) (Option.none : Option Jvm.ClassFile.FieldType)) ∈ zT := zTm 669 (by decide +kernel) rfl
theorem tw_670 : (Jvm.Cond.methodLink "RegretLocks$Person" (22 : Nat) ({ cls := "RegretLocks$Person", name := "become", desc := "(IIIII)V" } : Jvm.MethodName)) ∈ zT := zTm 670 (by decide +kernel) rfl
theorem tw_671 : (Jvm.Cond.methodLink "RegretLocks$Town" (54 : Nat) ({ cls := "RegretLocks$Lock", name := "becomeAs", desc := "(LRegretLocks$Lock;)V" } : Jvm.MethodName)) ∈ zT := zTm 671 (by decide +kernel) rfl
theorem tw_672 : (Jvm.Cond.instanceMethod ({ cls := "RegretLocks$Lock", name := "becomeAs", desc := "(LRegretLocks$Lock;)V" } : Jvm.MethodName)) ∈ zT := zTm 672 (by decide +kernel) rfl
theorem tw_673 : (Jvm.Cond.selects "RegretLocks$Lock" ({ cls := "RegretLocks$Lock", name := "becomeAs", desc := "(LRegretLocks$Lock;)V" } : Jvm.MethodName) ({ cls := "RegretLocks$Lock", name := "becomeAs", desc := "(LRegretLocks$Lock;)V" } : Jvm.MethodName)) ∈ zT := zTm 673 (by decide +kernel) rfl
theorem tw_674 : (Jvm.Cond.code ({ cls := "RegretLocks$Lock", name := "becomeAs", desc := "(LRegretLocks$Lock;)V" } : Jvm.MethodName) prog_3_method_3_code (2 : Nat) (Option.none : Option Jvm.ClassFile.FieldType)) ∈ zT := zTm 674 (by decide +kernel) rfl
theorem tw_675 : (Jvm.Cond.methodLink "RegretLocks$Lock" (26 : Nat) ({ cls := "RegretLocks$Lock", name := "become", desc := "(IIII)V" } : Jvm.MethodName)) ∈ zT := zTm 675 (by decide +kernel) rfl
theorem tw_676 : (Jvm.Cond.methodLink "RegretLocksLaw" (106 : Nat) ({ cls := "RegretLocks", name := "enters", desc := "(II)I" } : Jvm.MethodName)) ∈ zT := zTm 676 (by decide +kernel) rfl
theorem tw_677 : (Jvm.Cond.instanceMethod ({ cls := "RegretLocks", name := "enters", desc := "(II)I" } : Jvm.MethodName)) ∈ zT := zTm 677 (by decide +kernel) rfl
theorem tw_678 : (Jvm.Cond.selects "RegretLocks" ({ cls := "RegretLocks", name := "enters", desc := "(II)I" } : Jvm.MethodName) ({ cls := "RegretLocks", name := "enters", desc := "(II)I" } : Jvm.MethodName)) ∈ zT := zTm 678 (by decide +kernel) rfl
theorem tw_679 : (Jvm.Cond.code ({ cls := "RegretLocks", name := "enters", desc := "(II)I" } : Jvm.MethodName) prog_1_method_24_code (4 : Nat) (Option.some Jvm.ClassFile.FieldType.int)) ∈ zT := zTm 679 (by decide +kernel) rfl
theorem tw_680 : (Jvm.Cond.methodLink "RegretLocksLaw" (110 : Nat) ({ cls := "RegretLocks", name := "freed", desc := "(II)I" } : Jvm.MethodName)) ∈ zT := zTm 680 (by decide +kernel) rfl
theorem tw_681 : (Jvm.Cond.instanceMethod ({ cls := "RegretLocks", name := "freed", desc := "(II)I" } : Jvm.MethodName)) ∈ zT := zTm 681 (by decide +kernel) rfl
theorem tw_682 : (Jvm.Cond.selects "RegretLocks" ({ cls := "RegretLocks", name := "freed", desc := "(II)I" } : Jvm.MethodName) ({ cls := "RegretLocks", name := "freed", desc := "(II)I" } : Jvm.MethodName)) ∈ zT := zTm 682 (by decide +kernel) rfl
theorem tw_683 : (Jvm.Cond.code ({ cls := "RegretLocks", name := "freed", desc := "(II)I" } : Jvm.MethodName) prog_1_method_25_code (7 : Nat) (Option.some Jvm.ClassFile.FieldType.int)) ∈ zT := zTm 683 (by decide +kernel) rfl
theorem tw_684 : (Jvm.Cond.methodLink "RegretLocks" (227 : Nat) ({ cls := "RegretLocks", name := "entriesThought", desc := "(I)I" } : Jvm.MethodName)) ∈ zT := zTm 684 (by decide +kernel) rfl
theorem tw_686 : (Jvm.Cond.instanceMethod ({ cls := "RegretLocks", name := "entriesThought", desc := "(I)I" } : Jvm.MethodName)) ∈ zT := zTm 686 (by decide +kernel) rfl
theorem tw_687 : (Jvm.Cond.code ({ cls := "RegretLocks", name := "entriesThought", desc := "(I)I" } : Jvm.MethodName) prog_1_method_61_code (3 : Nat) (Option.some Jvm.ClassFile.FieldType.int)) ∈ zT := zTm 687 (by decide +kernel) rfl
theorem tw_688 : (Jvm.Cond.methodLink "RegretLocksLaw" (114 : Nat) ({ cls := "RegretLocks", name := "becomes", desc := "(III)I" } : Jvm.MethodName)) ∈ zT := zTm 688 (by decide +kernel) rfl
theorem tw_689 : (Jvm.Cond.instanceMethod ({ cls := "RegretLocks", name := "becomes", desc := "(III)I" } : Jvm.MethodName)) ∈ zT := zTm 689 (by decide +kernel) rfl
theorem tw_690 : (Jvm.Cond.selects "RegretLocks" ({ cls := "RegretLocks", name := "becomes", desc := "(III)I" } : Jvm.MethodName) ({ cls := "RegretLocks", name := "becomes", desc := "(III)I" } : Jvm.MethodName)) ∈ zT := zTm 690 (by decide +kernel) rfl
theorem tw_691 : (Jvm.Cond.code ({ cls := "RegretLocks", name := "becomes", desc := "(III)I" } : Jvm.MethodName) prog_1_method_26_code (8 : Nat) (Option.some Jvm.ClassFile.FieldType.int)) ∈ zT := zTm 691 (by decide +kernel) rfl
theorem tw_692 : (Jvm.Cond.methodLink "RegretLocksLaw" (118 : Nat) ({ cls := "RegretLocks", name := "like", desc := "(II)I" } : Jvm.MethodName)) ∈ zT := zTm 692 (by decide +kernel) rfl
theorem tw_693 : (Jvm.Cond.instanceMethod ({ cls := "RegretLocks", name := "like", desc := "(II)I" } : Jvm.MethodName)) ∈ zT := zTm 693 (by decide +kernel) rfl
theorem tw_694 : (Jvm.Cond.selects "RegretLocks" ({ cls := "RegretLocks", name := "like", desc := "(II)I" } : Jvm.MethodName) ({ cls := "RegretLocks", name := "like", desc := "(II)I" } : Jvm.MethodName)) ∈ zT := zTm 694 (by decide +kernel) rfl
theorem tw_695 : (Jvm.Cond.code ({ cls := "RegretLocks", name := "like", desc := "(II)I" } : Jvm.MethodName) prog_1_method_27_code (5 : Nat) (Option.some Jvm.ClassFile.FieldType.int)) ∈ zT := zTm 695 (by decide +kernel) rfl
theorem tw_696 : (Jvm.Cond.methodLink "RegretLocks" (230 : Nat) ({ cls := "RegretLocks", name := "isSheet", desc := "(I)Z" } : Jvm.MethodName)) ∈ zT := zTm 696 (by decide +kernel) rfl
theorem tw_697 : (Jvm.Cond.static ({ cls := "RegretLocks", name := "isSheet", desc := "(I)Z" } : Jvm.MethodName)) ∈ zT := zTm 697 (by decide +kernel) rfl
theorem tw_698 : (Jvm.Cond.code ({ cls := "RegretLocks", name := "isSheet", desc := "(I)Z" } : Jvm.MethodName) prog_1_method_54_code (1 : Nat) (Option.some Jvm.ClassFile.FieldType.boolean)) ∈ zT := zTm 698 (by decide +kernel) rfl
theorem tw_699 : (Jvm.Cond.methodLink "RegretLocks" (233 : Nat) ({ cls := "RegretLocks$Sheet", name := "isMissing", desc := "()Z" } : Jvm.MethodName)) ∈ zT := zTm 699 (by decide +kernel) rfl
theorem tw_700 : (Jvm.Cond.instanceMethod ({ cls := "RegretLocks$Sheet", name := "isMissing", desc := "()Z" } : Jvm.MethodName)) ∈ zT := zTm 700 (by decide +kernel) rfl
theorem tw_701 : (Jvm.Cond.selects "RegretLocks$Sheet" ({ cls := "RegretLocks$Sheet", name := "isMissing", desc := "()Z" } : Jvm.MethodName) ({ cls := "RegretLocks$Sheet", name := "isMissing", desc := "()Z" } : Jvm.MethodName)) ∈ zT := zTm 701 (by decide +kernel) rfl
theorem tw_702 : (Jvm.Cond.code ({ cls := "RegretLocks$Sheet", name := "isMissing", desc := "()Z" } : Jvm.MethodName) prog_6_method_4_code (1 : Nat) (Option.some Jvm.ClassFile.FieldType.boolean)) ∈ zT := zTm 702 (by decide +kernel) rfl
theorem tw_703 : (Jvm.Cond.constant "RegretLocks" (237 : Nat) (-1000000011 : Int32)) ∈ zT := zTm 703 (by decide +kernel) rfl
theorem tw_704 : (Jvm.Cond.methodLink "RegretLocks" (238 : Nat) ({ cls := "RegretLocks", name := "countHits", desc := "(LRegretLocks$Sheet;)V" } : Jvm.MethodName)) ∈ zT := zTm 704 (by decide +kernel) rfl
theorem tw_706 : (Jvm.Cond.instanceMethod ({ cls := "RegretLocks", name := "countHits", desc := "(LRegretLocks$Sheet;)V" } : Jvm.MethodName)) ∈ zT := zTm 706 (by decide +kernel) rfl
theorem tw_707 : (Jvm.Cond.code ({ cls := "RegretLocks", name := "countHits", desc := "(LRegretLocks$Sheet;)V" } : Jvm.MethodName) prog_1_method_62_code (4 : Nat) (Option.none : Option Jvm.ClassFile.FieldType)) ∈ zT := zTm 707 (by decide +kernel) rfl
theorem tw_708 : (Jvm.Cond.methodLink "RegretLocks" (344 : Nat) ({ cls := "java/util/Arrays", name := "fill", desc := "([II)V" } : Jvm.MethodName)) ∈ zT := zTm 708 (by decide +kernel) rfl
theorem tw_709 : (Jvm.Cond.methodLink "RegretLocks" (300 : Nat) ({ cls := "RegretLocks$Sheet", name := "isNumber", desc := "(I)Z" } : Jvm.MethodName)) ∈ zT := zTm 709 (by decide +kernel) rfl
theorem tw_710 : (Jvm.Cond.instanceMethod ({ cls := "RegretLocks$Sheet", name := "isNumber", desc := "(I)Z" } : Jvm.MethodName)) ∈ zT := zTm 710 (by decide +kernel) rfl
theorem tw_711 : (Jvm.Cond.selects "RegretLocks$Sheet" ({ cls := "RegretLocks$Sheet", name := "isNumber", desc := "(I)Z" } : Jvm.MethodName) ({ cls := "RegretLocks$Sheet", name := "isNumber", desc := "(I)Z" } : Jvm.MethodName)) ∈ zT := zTm 711 (by decide +kernel) rfl
theorem tw_712 : (Jvm.Cond.code ({ cls := "RegretLocks$Sheet", name := "isNumber", desc := "(I)Z" } : Jvm.MethodName) prog_6_method_7_code (2 : Nat) (Option.some Jvm.ClassFile.FieldType.boolean)) ∈ zT := zTm 712 (by decide +kernel) rfl
theorem tw_713 : (Jvm.Cond.constant "RegretLocks$Sheet" (34 : Nat) (-1000000005 : Int32)) ∈ zT := zTm 713 (by decide +kernel) rfl
theorem tw_714 : (Jvm.Cond.methodLink "RegretLocksLaw" (122 : Nat) ({ cls := "RegretLocks", name := "fee", desc := "()I" } : Jvm.MethodName)) ∈ zT := zTm 714 (by decide +kernel) rfl
theorem tw_715 : (Jvm.Cond.instanceMethod ({ cls := "RegretLocks", name := "fee", desc := "()I" } : Jvm.MethodName)) ∈ zT := zTm 715 (by decide +kernel) rfl
theorem tw_716 : (Jvm.Cond.selects "RegretLocks" ({ cls := "RegretLocks", name := "fee", desc := "()I" } : Jvm.MethodName) ({ cls := "RegretLocks", name := "fee", desc := "()I" } : Jvm.MethodName)) ∈ zT := zTm 716 (by decide +kernel) rfl
theorem tw_717 : (Jvm.Cond.code ({ cls := "RegretLocks", name := "fee", desc := "()I" } : Jvm.MethodName) prog_1_method_28_code (2 : Nat) (Option.some Jvm.ClassFile.FieldType.int)) ∈ zT := zTm 717 (by decide +kernel) rfl
theorem tw_718 : (Jvm.Cond.methodLink "RegretLocks" (246 : Nat) ({ cls := "RegretLocks$Text", name := "value", desc := "(III)I" } : Jvm.MethodName)) ∈ zT := zTm 718 (by decide +kernel) rfl
theorem tw_719 : (Jvm.Cond.methodLink "RegretLocksLaw" (127 : Nat) ({ cls := "RegretLocks", name := "fine", desc := "(I)I" } : Jvm.MethodName)) ∈ zT := zTm 719 (by decide +kernel) rfl
theorem tw_720 : (Jvm.Cond.instanceMethod ({ cls := "RegretLocks", name := "fine", desc := "(I)I" } : Jvm.MethodName)) ∈ zT := zTm 720 (by decide +kernel) rfl
theorem tw_721 : (Jvm.Cond.selects "RegretLocks" ({ cls := "RegretLocks", name := "fine", desc := "(I)I" } : Jvm.MethodName) ({ cls := "RegretLocks", name := "fine", desc := "(I)I" } : Jvm.MethodName)) ∈ zT := zTm 721 (by decide +kernel) rfl
theorem tw_722 : (Jvm.Cond.code ({ cls := "RegretLocks", name := "fine", desc := "(I)I" } : Jvm.MethodName) prog_1_method_29_code (4 : Nat) (Option.some Jvm.ClassFile.FieldType.int)) ∈ zT := zTm 722 (by decide +kernel) rfl
theorem tw_723 : (Jvm.Cond.methodLink "RegretLocks" (252 : Nat) ({ cls := "RegretLocks$Person", name := "allRegrets", desc := "()I" } : Jvm.MethodName)) ∈ zT := zTm 723 (by decide +kernel) rfl
theorem tw_724 : (Jvm.Cond.methodLink "RegretLocksLaw" (131 : Nat) ({ cls := "RegretLocks", name := "feed", desc := "(III)I" } : Jvm.MethodName)) ∈ zT := zTm 724 (by decide +kernel) rfl
theorem tw_725 : (Jvm.Cond.instanceMethod ({ cls := "RegretLocks", name := "feed", desc := "(III)I" } : Jvm.MethodName)) ∈ zT := zTm 725 (by decide +kernel) rfl
theorem tw_726 : (Jvm.Cond.selects "RegretLocks" ({ cls := "RegretLocks", name := "feed", desc := "(III)I" } : Jvm.MethodName) ({ cls := "RegretLocks", name := "feed", desc := "(III)I" } : Jvm.MethodName)) ∈ zT := zTm 726 (by decide +kernel) rfl
theorem tw_727 : (Jvm.Cond.code ({ cls := "RegretLocks", name := "feed", desc := "(III)I" } : Jvm.MethodName) prog_1_method_30_code (4 : Nat) (Option.some Jvm.ClassFile.FieldType.int)) ∈ zT := zTm 727 (by decide +kernel) rfl
theorem tw_728 : (Jvm.Cond.methodLink "RegretLocks" (256 : Nat) ({ cls := "RegretLocks", name := "feedFour", desc := "(I)V" } : Jvm.MethodName)) ∈ zT := zTm 728 (by decide +kernel) rfl
theorem tw_730 : (Jvm.Cond.instanceMethod ({ cls := "RegretLocks", name := "feedFour", desc := "(I)V" } : Jvm.MethodName)) ∈ zT := zTm 730 (by decide +kernel) rfl
theorem tw_731 : (Jvm.Cond.code ({ cls := "RegretLocks", name := "feedFour", desc := "(I)V" } : Jvm.MethodName) prog_1_method_60_code (3 : Nat) (Option.none : Option Jvm.ClassFile.FieldType)) ∈ zT := zTm 731 (by decide +kernel) rfl
theorem tw_732 : (Jvm.Cond.methodLink "RegretLocksLaw" (135 : Nat) ({ cls := "RegretLocks", name := "trim", desc := "(I)I" } : Jvm.MethodName)) ∈ zT := zTm 732 (by decide +kernel) rfl
theorem tw_733 : (Jvm.Cond.instanceMethod ({ cls := "RegretLocks", name := "trim", desc := "(I)I" } : Jvm.MethodName)) ∈ zT := zTm 733 (by decide +kernel) rfl
theorem tw_734 : (Jvm.Cond.selects "RegretLocks" ({ cls := "RegretLocks", name := "trim", desc := "(I)I" } : Jvm.MethodName) ({ cls := "RegretLocks", name := "trim", desc := "(I)I" } : Jvm.MethodName)) ∈ zT := zTm 734 (by decide +kernel) rfl
theorem tw_735 : (Jvm.Cond.code ({ cls := "RegretLocks", name := "trim", desc := "(I)I" } : Jvm.MethodName) prog_1_method_31_code (2 : Nat) (Option.some Jvm.ClassFile.FieldType.int)) ∈ zT := zTm 735 (by decide +kernel) rfl
theorem tw_736 : (Jvm.Cond.methodLink "RegretLocksLaw" (139 : Nat) ({ cls := "RegretLocks", name := "text", desc := "()I" } : Jvm.MethodName)) ∈ zT := zTm 736 (by decide +kernel) rfl
theorem tw_737 : (Jvm.Cond.instanceMethod ({ cls := "RegretLocks", name := "text", desc := "()I" } : Jvm.MethodName)) ∈ zT := zTm 737 (by decide +kernel) rfl
theorem tw_738 : (Jvm.Cond.selects "RegretLocks" ({ cls := "RegretLocks", name := "text", desc := "()I" } : Jvm.MethodName) ({ cls := "RegretLocks", name := "text", desc := "()I" } : Jvm.MethodName)) ∈ zT := zTm 738 (by decide +kernel) rfl
theorem tw_739 : (Jvm.Cond.code ({ cls := "RegretLocks", name := "text", desc := "()I" } : Jvm.MethodName) prog_1_method_32_code (3 : Nat) (Option.some Jvm.ClassFile.FieldType.int)) ∈ zT := zTm 739 (by decide +kernel) rfl
theorem tw_740 : (Jvm.Cond.methodLink "RegretLocks" (260 : Nat) ({ cls := "RegretLocks$Parser", name := "findFault", desc := "([BI)I" } : Jvm.MethodName)) ∈ zT := zTm 740 (by decide +kernel) rfl
theorem tw_741 : (Jvm.Cond.instanceMethod ({ cls := "RegretLocks$Parser", name := "findFault", desc := "([BI)I" } : Jvm.MethodName)) ∈ zT := zTm 741 (by decide +kernel) rfl
theorem tw_742 : (Jvm.Cond.selects "RegretLocks$Parser" ({ cls := "RegretLocks$Parser", name := "findFault", desc := "([BI)I" } : Jvm.MethodName) ({ cls := "RegretLocks$Parser", name := "findFault", desc := "([BI)I" } : Jvm.MethodName)) ∈ zT := zTm 742 (by decide +kernel) rfl
theorem tw_743 : (Jvm.Cond.code ({ cls := "RegretLocks$Parser", name := "findFault", desc := "([BI)I" } : Jvm.MethodName) prog_4_method_2_code (5 : Nat) (Option.some Jvm.ClassFile.FieldType.int)) ∈ zT := zTm 743 (by decide +kernel) rfl
theorem tw_744 : (Jvm.Cond.methodLink "RegretLocks$Parser" (22 : Nat) ({ cls := "RegretLocks$Parser", name := "begin", desc := "([BI)V" } : Jvm.MethodName)) ∈ zT := zTm 744 (by decide +kernel) rfl
theorem tw_746 : (Jvm.Cond.instanceMethod ({ cls := "RegretLocks$Parser", name := "begin", desc := "([BI)V" } : Jvm.MethodName)) ∈ zT := zTm 746 (by decide +kernel) rfl
theorem tw_747 : (Jvm.Cond.code ({ cls := "RegretLocks$Parser", name := "begin", desc := "([BI)V" } : Jvm.MethodName) prog_4_method_4_code (3 : Nat) (Option.none : Option Jvm.ClassFile.FieldType)) ∈ zT := zTm 747 (by decide +kernel) rfl
theorem tw_748 : (Jvm.Cond.methodLink "RegretLocks$Parser" (81 : Nat) ({ cls := "java/lang/Math", name := "min", desc := "(II)I" } : Jvm.MethodName)) ∈ zT := zTm 748 (by decide +kernel) rfl
theorem tw_749 : (Jvm.Cond.methodLink "RegretLocks$Parser" (26 : Nat) ({ cls := "RegretLocks$Parser", name := "next", desc := "()V" } : Jvm.MethodName)) ∈ zT := zTm 749 (by decide +kernel) rfl
theorem tw_751 : (Jvm.Cond.instanceMethod ({ cls := "RegretLocks$Parser", name := "next", desc := "()V" } : Jvm.MethodName)) ∈ zT := zTm 751 (by decide +kernel) rfl
theorem tw_752 : (Jvm.Cond.code ({ cls := "RegretLocks$Parser", name := "next", desc := "()V" } : Jvm.MethodName) prog_4_method_5_code (3 : Nat) (Option.none : Option Jvm.ClassFile.FieldType)) ∈ zT := zTm 752 (by decide +kernel) rfl
theorem tw_753 : (Jvm.Cond.methodLink "RegretLocks$Parser" (96 : Nat) ({ cls := "RegretLocks$Parser", name := "sortAt", desc := "(I)I" } : Jvm.MethodName)) ∈ zT := zTm 753 (by decide +kernel) rfl
theorem tw_755 : (Jvm.Cond.instanceMethod ({ cls := "RegretLocks$Parser", name := "sortAt", desc := "(I)I" } : Jvm.MethodName)) ∈ zT := zTm 755 (by decide +kernel) rfl
theorem tw_756 : (Jvm.Cond.code ({ cls := "RegretLocks$Parser", name := "sortAt", desc := "(I)I" } : Jvm.MethodName) prog_4_method_6_code (3 : Nat) (Option.some Jvm.ClassFile.FieldType.int)) ∈ zT := zTm 756 (by decide +kernel) rfl
theorem tw_757 : (Jvm.Cond.methodLink "RegretLocks$Parser" (29 : Nat) ({ cls := "RegretLocks$Parser", name := "keyAtHand", desc := "()I" } : Jvm.MethodName)) ∈ zT := zTm 757 (by decide +kernel) rfl
theorem tw_759 : (Jvm.Cond.instanceMethod ({ cls := "RegretLocks$Parser", name := "keyAtHand", desc := "()I" } : Jvm.MethodName)) ∈ zT := zTm 759 (by decide +kernel) rfl
theorem tw_760 : (Jvm.Cond.code ({ cls := "RegretLocks$Parser", name := "keyAtHand", desc := "()I" } : Jvm.MethodName) prog_4_method_7_code (1 : Nat) (Option.some Jvm.ClassFile.FieldType.int)) ∈ zT := zTm 760 (by decide +kernel) rfl
theorem tw_762 : (Jvm.Cond.methodLink "RegretLocks$Parser" (102 : Nat) ({ cls := "RegretLocks$Parser", name := "isAtHand", desc := "(Ljava/lang/String;)Z" } : Jvm.MethodName)) ∈ zT := zTm 762 (by decide +kernel) rfl
theorem tw_764 : (Jvm.Cond.instanceMethod ({ cls := "RegretLocks$Parser", name := "isAtHand", desc := "(Ljava/lang/String;)Z" } : Jvm.MethodName)) ∈ zT := zTm 764 (by decide +kernel) rfl
theorem tw_765 : (Jvm.Cond.code ({ cls := "RegretLocks$Parser", name := "isAtHand", desc := "(Ljava/lang/String;)Z" } : Jvm.MethodName) prog_4_method_8_code (3 : Nat) (Option.some Jvm.ClassFile.FieldType.boolean)) ∈ zT := zTm 765 (by decide +kernel) rfl
theorem tw_766 : (Jvm.Cond.methodLink "RegretLocks$Parser" (110 : Nat) ({ cls := "java/lang/String", name := "length", desc := "()I" } : Jvm.MethodName)) ∈ zT := zTm 766 (by decide +kernel) rfl
theorem tw_769 : (Jvm.Cond.code ({ cls := "java/lang/String", name := "length", desc := "()I" } : Jvm.MethodName) prog_16_method_54_code (1 : Nat) (Option.some Jvm.ClassFile.FieldType.int)) ∈ zT := zTm 769 (by decide +kernel) rfl
theorem tw_770 : (Jvm.Cond.methodLink "java/lang/String" (335 : Nat) ({ cls := "java/lang/String", name := "coder", desc := "()B" } : Jvm.MethodName)) ∈ zT := zTm 770 (by decide +kernel) rfl
theorem tw_773 : (Jvm.Cond.code ({ cls := "java/lang/String", name := "coder", desc := "()B" } : Jvm.MethodName) prog_16_method_152_code (1 : Nat) (Option.some Jvm.ClassFile.FieldType.byte)) ∈ zT := zTm 773 (by decide +kernel) rfl
theorem tw_774 : (Jvm.Cond.fieldLink "java/lang/String" (38 : Nat) "java/lang/String" "COMPACT_STRINGS" "Z") ∈ zT := zTm 774 (by decide +kernel) rfl
theorem tw_776 : (Jvm.Cond.methodLink "RegretLocks$Parser" (114 : Nat) ({ cls := "java/lang/String", name := "charAt", desc := "(I)C" } : Jvm.MethodName)) ∈ zT := zTm 776 (by decide +kernel) rfl
theorem tw_779 : (Jvm.Cond.code ({ cls := "java/lang/String", name := "charAt", desc := "(I)C" } : Jvm.MethodName) prog_16_method_56_code (2 : Nat) (Option.some Jvm.ClassFile.FieldType.char)) ∈ zT := zTm 779 (by decide +kernel) rfl
theorem tw_780 : (Jvm.Cond.methodLink "java/lang/String" (492 : Nat) ({ cls := "java/lang/String", name := "isLatin1", desc := "()Z" } : Jvm.MethodName)) ∈ zT := zTm 780 (by decide +kernel) rfl
theorem tw_783 : (Jvm.Cond.code ({ cls := "java/lang/String", name := "isLatin1", desc := "()Z" } : Jvm.MethodName) prog_16_method_154_code (1 : Nat) (Option.some Jvm.ClassFile.FieldType.boolean)) ∈ zT := zTm 783 (by decide +kernel) rfl
theorem tw_784 : (Jvm.Cond.methodLink "java/lang/String" (495 : Nat) ({ cls := "java/lang/StringLatin1", name := "charAt", desc := "([BI)C" } : Jvm.MethodName)) ∈ zT := zTm 784 (by decide +kernel) rfl
theorem tw_785 : (Jvm.Cond.static ({ cls := "java/lang/StringLatin1", name := "charAt", desc := "([BI)C" } : Jvm.MethodName)) ∈ zT := zTm 785 (by decide +kernel) rfl
theorem tw_786 : (Jvm.Cond.code ({ cls := "java/lang/StringLatin1", name := "charAt", desc := "([BI)C" } : Jvm.MethodName) prog_17_method_2_code (2 : Nat) (Option.some Jvm.ClassFile.FieldType.char)) ∈ zT := zTm 786 (by decide +kernel) rfl
theorem tw_787 : (Jvm.Cond.methodLink "java/lang/StringLatin1" (9 : Nat) ({ cls := "java/lang/String", name := "checkIndex", desc := "(II)V" } : Jvm.MethodName)) ∈ zT := zTm 787 (by decide +kernel) rfl
theorem tw_788 : (Jvm.Cond.static ({ cls := "java/lang/String", name := "checkIndex", desc := "(II)V" } : Jvm.MethodName)) ∈ zT := zTm 788 (by decide +kernel) rfl
theorem tw_789 : (Jvm.Cond.code ({ cls := "java/lang/String", name := "checkIndex", desc := "(II)V" } : Jvm.MethodName) prog_16_method_155_code (2 : Nat) (Option.none : Option Jvm.ClassFile.FieldType)) ∈ zT := zTm 789 (by decide +kernel) rfl
theorem tw_790 : (Jvm.Cond.fieldLink "java/lang/String" (1053 : Nat) "jdk/internal/util/Preconditions" "SIOOBE_FORMATTER" "Ljava/util/function/BiFunction;") ∈ zT := zTm 790 (by decide +kernel) rfl
theorem tw_792 : (Jvm.Cond.methodLink "java/lang/String" (1059 : Nat) ({ cls := "jdk/internal/util/Preconditions", name := "checkIndex", desc := "(IILjava/util/function/BiFunction;)I" } : Jvm.MethodName)) ∈ zT := zTm 792 (by decide +kernel) rfl
theorem tw_793 : (Jvm.Cond.static ({ cls := "jdk/internal/util/Preconditions", name := "checkIndex", desc := "(IILjava/util/function/BiFunction;)I" } : Jvm.MethodName)) ∈ zT := zTm 793 (by decide +kernel) rfl
theorem tw_794 : (Jvm.Cond.code ({ cls := "jdk/internal/util/Preconditions", name := "checkIndex", desc := "(IILjava/util/function/BiFunction;)I" } : Jvm.MethodName) prog_21_method_11_code (3 : Nat) (Option.some Jvm.ClassFile.FieldType.int)) ∈ zT := zTm 794 (by decide +kernel) rfl
theorem tw_795 : (Jvm.Cond.methodLink "java/lang/String" (498 : Nat) ({ cls := "java/lang/StringUTF16", name := "charAt", desc := "([BI)C" } : Jvm.MethodName)) ∈ zT := zTm 795 (by decide +kernel) rfl
theorem tw_796 : (Jvm.Cond.static ({ cls := "java/lang/StringUTF16", name := "charAt", desc := "([BI)C" } : Jvm.MethodName)) ∈ zT := zTm 796 (by decide +kernel) rfl
theorem tw_797 : (Jvm.Cond.code ({ cls := "java/lang/StringUTF16", name := "charAt", desc := "([BI)C" } : Jvm.MethodName) prog_18_method_83_code (2 : Nat) (Option.some Jvm.ClassFile.FieldType.char)) ∈ zT := zTm 797 (by decide +kernel) rfl
theorem tw_798 : (Jvm.Cond.methodLink "java/lang/StringUTF16" (67 : Nat) ({ cls := "java/lang/StringUTF16", name := "checkIndex", desc := "(I[B)V" } : Jvm.MethodName)) ∈ zT := zTm 798 (by decide +kernel) rfl
theorem tw_799 : (Jvm.Cond.static ({ cls := "java/lang/StringUTF16", name := "checkIndex", desc := "(I[B)V" } : Jvm.MethodName)) ∈ zT := zTm 799 (by decide +kernel) rfl
theorem tw_800 : (Jvm.Cond.code ({ cls := "java/lang/StringUTF16", name := "checkIndex", desc := "(I[B)V" } : Jvm.MethodName) prog_18_method_91_code (2 : Nat) (Option.none : Option Jvm.ClassFile.FieldType)) ∈ zT := zTm 800 (by decide +kernel) rfl
theorem tw_801 : (Jvm.Cond.methodLink "java/lang/StringUTF16" (48 : Nat) ({ cls := "java/lang/StringUTF16", name := "length", desc := "([B)I" } : Jvm.MethodName)) ∈ zT := zTm 801 (by decide +kernel) rfl
theorem tw_802 : (Jvm.Cond.static ({ cls := "java/lang/StringUTF16", name := "length", desc := "([B)I" } : Jvm.MethodName)) ∈ zT := zTm 802 (by decide +kernel) rfl
theorem tw_803 : (Jvm.Cond.code ({ cls := "java/lang/StringUTF16", name := "length", desc := "([B)I" } : Jvm.MethodName) prog_18_method_6_code (1 : Nat) (Option.some Jvm.ClassFile.FieldType.int)) ∈ zT := zTm 803 (by decide +kernel) rfl
theorem tw_804 : (Jvm.Cond.methodLink "java/lang/StringUTF16" (414 : Nat) ({ cls := "java/lang/String", name := "checkIndex", desc := "(II)V" } : Jvm.MethodName)) ∈ zT := zTm 804 (by decide +kernel) rfl
theorem tw_805 : (Jvm.Cond.methodLink "java/lang/StringUTF16" (71 : Nat) ({ cls := "java/lang/StringUTF16", name := "getChar", desc := "([BI)C" } : Jvm.MethodName)) ∈ zT := zTm 805 (by decide +kernel) rfl
theorem tw_806 : (Jvm.Cond.static ({ cls := "java/lang/StringUTF16", name := "getChar", desc := "([BI)C" } : Jvm.MethodName)) ∈ zT := zTm 806 (by decide +kernel) rfl
theorem tw_807 : (Jvm.Cond.code ({ cls := "java/lang/StringUTF16", name := "getChar", desc := "([BI)C" } : Jvm.MethodName) prog_18_method_5_code (2 : Nat) (Option.some Jvm.ClassFile.FieldType.char)) ∈ zT := zTm 807 (by decide +kernel) rfl
theorem tw_808 : (Jvm.Cond.fieldLink "java/lang/StringUTF16" (44 : Nat) "java/lang/StringUTF16" "$assertionsDisabled" "Z") ∈ zT := zTm 808 (by decide +kernel) rfl
theorem tw_810 : (Jvm.Cond.fieldLink "java/lang/StringUTF16" (59 : Nat) "java/lang/StringUTF16" "HI_BYTE_SHIFT" "I") ∈ zT := zTm 810 (by decide +kernel) rfl
theorem tw_812 : (Jvm.Cond.fieldLink "java/lang/StringUTF16" (63 : Nat) "java/lang/StringUTF16" "LO_BYTE_SHIFT" "I") ∈ zT := zTm 812 (by decide +kernel) rfl
theorem tw_816 : (Jvm.Cond.methodLink "RegretLocks$Parser" (47 : Nat) ({ cls := "RegretLocks$Parser", name := "takesPiece", desc := "()Z" } : Jvm.MethodName)) ∈ zT := zTm 816 (by decide +kernel) rfl
theorem tw_818 : (Jvm.Cond.instanceMethod ({ cls := "RegretLocks$Parser", name := "takesPiece", desc := "()Z" } : Jvm.MethodName)) ∈ zT := zTm 818 (by decide +kernel) rfl
theorem tw_819 : (Jvm.Cond.code ({ cls := "RegretLocks$Parser", name := "takesPiece", desc := "()Z" } : Jvm.MethodName) prog_4_method_9_code (1 : Nat) (Option.some Jvm.ClassFile.FieldType.boolean)) ∈ zT := zTm 819 (by decide +kernel) rfl
theorem tw_820 : (Jvm.Cond.methodLink "RegretLocks$Parser" (118 : Nat) ({ cls := "RegretLocks$Parser", name := "takesNumber", desc := "()Z" } : Jvm.MethodName)) ∈ zT := zTm 820 (by decide +kernel) rfl
theorem tw_822 : (Jvm.Cond.instanceMethod ({ cls := "RegretLocks$Parser", name := "takesNumber", desc := "()Z" } : Jvm.MethodName)) ∈ zT := zTm 822 (by decide +kernel) rfl
theorem tw_823 : (Jvm.Cond.code ({ cls := "RegretLocks$Parser", name := "takesNumber", desc := "()Z" } : Jvm.MethodName) prog_4_method_10_code (3 : Nat) (Option.some Jvm.ClassFile.FieldType.boolean)) ∈ zT := zTm 823 (by decide +kernel) rfl
theorem tw_824 : (Jvm.Cond.methodLink "RegretLocks$Parser" (128 : Nat) ({ cls := "RegretLocks$Parser", name := "write", desc := "(I)V" } : Jvm.MethodName)) ∈ zT := zTm 824 (by decide +kernel) rfl
theorem tw_826 : (Jvm.Cond.instanceMethod ({ cls := "RegretLocks$Parser", name := "write", desc := "(I)V" } : Jvm.MethodName)) ∈ zT := zTm 826 (by decide +kernel) rfl
theorem tw_827 : (Jvm.Cond.code ({ cls := "RegretLocks$Parser", name := "write", desc := "(I)V" } : Jvm.MethodName) prog_4_method_19_code (2 : Nat) (Option.none : Option Jvm.ClassFile.FieldType)) ∈ zT := zTm 827 (by decide +kernel) rfl
theorem tw_828 : (Jvm.Cond.methodLink "RegretLocks$Parser" (131 : Nat) ({ cls := "RegretLocks$Parser", name := "closeNots", desc := "()V" } : Jvm.MethodName)) ∈ zT := zTm 828 (by decide +kernel) rfl
theorem tw_830 : (Jvm.Cond.instanceMethod ({ cls := "RegretLocks$Parser", name := "closeNots", desc := "()V" } : Jvm.MethodName)) ∈ zT := zTm 830 (by decide +kernel) rfl
theorem tw_831 : (Jvm.Cond.code ({ cls := "RegretLocks$Parser", name := "closeNots", desc := "()V" } : Jvm.MethodName) prog_4_method_18_code (1 : Nat) (Option.none : Option Jvm.ClassFile.FieldType)) ∈ zT := zTm 831 (by decide +kernel) rfl
theorem tw_832 : (Jvm.Cond.methodLink "RegretLocks$Parser" (121 : Nat) ({ cls := "RegretLocks$Parser", name := "takesName", desc := "()Z" } : Jvm.MethodName)) ∈ zT := zTm 832 (by decide +kernel) rfl
theorem tw_834 : (Jvm.Cond.instanceMethod ({ cls := "RegretLocks$Parser", name := "takesName", desc := "()Z" } : Jvm.MethodName)) ∈ zT := zTm 834 (by decide +kernel) rfl
theorem tw_835 : (Jvm.Cond.code ({ cls := "RegretLocks$Parser", name := "takesName", desc := "()Z" } : Jvm.MethodName) prog_4_method_11_code (3 : Nat) (Option.some Jvm.ClassFile.FieldType.boolean)) ∈ zT := zTm 835 (by decide +kernel) rfl
theorem tw_839 : (Jvm.Cond.methodLink "RegretLocks$Parser" (140 : Nat) ({ cls := "java/lang/String", name := "indexOf", desc := "(I)I" } : Jvm.MethodName)) ∈ zT := zTm 839 (by decide +kernel) rfl
theorem tw_842 : (Jvm.Cond.code ({ cls := "java/lang/String", name := "indexOf", desc := "(I)I" } : Jvm.MethodName) prog_16_method_79_code (2 : Nat) (Option.some Jvm.ClassFile.FieldType.int)) ∈ zT := zTm 842 (by decide +kernel) rfl
theorem tw_843 : (Jvm.Cond.methodLink "java/lang/String" (633 : Nat) ({ cls := "java/lang/String", name := "indexOf", desc := "(II)I" } : Jvm.MethodName)) ∈ zT := zTm 843 (by decide +kernel) rfl
theorem tw_846 : (Jvm.Cond.code ({ cls := "java/lang/String", name := "indexOf", desc := "(II)I" } : Jvm.MethodName) prog_16_method_80_code (3 : Nat) (Option.some Jvm.ClassFile.FieldType.int)) ∈ zT := zTm 846 (by decide +kernel) rfl
theorem tw_847 : (Jvm.Cond.methodLink "java/lang/String" (505 : Nat) ({ cls := "java/lang/String", name := "length", desc := "()I" } : Jvm.MethodName)) ∈ zT := zTm 847 (by decide +kernel) rfl
theorem tw_848 : (Jvm.Cond.methodLink "java/lang/String" (637 : Nat) ({ cls := "java/lang/StringLatin1", name := "indexOf", desc := "([BIII)I" } : Jvm.MethodName)) ∈ zT := zTm 848 (by decide +kernel) rfl
theorem tw_849 : (Jvm.Cond.static ({ cls := "java/lang/StringLatin1", name := "indexOf", desc := "([BIII)I" } : Jvm.MethodName)) ∈ zT := zTm 849 (by decide +kernel) rfl
theorem tw_850 : (Jvm.Cond.code ({ cls := "java/lang/StringLatin1", name := "indexOf", desc := "([BIII)I" } : Jvm.MethodName) prog_17_method_22_code (4 : Nat) (Option.some Jvm.ClassFile.FieldType.int)) ∈ zT := zTm 850 (by decide +kernel) rfl
theorem tw_851 : (Jvm.Cond.methodLink "java/lang/StringLatin1" (88 : Nat) ({ cls := "java/lang/StringLatin1", name := "canEncode", desc := "(I)Z" } : Jvm.MethodName)) ∈ zT := zTm 851 (by decide +kernel) rfl
theorem tw_852 : (Jvm.Cond.static ({ cls := "java/lang/StringLatin1", name := "canEncode", desc := "(I)Z" } : Jvm.MethodName)) ∈ zT := zTm 852 (by decide +kernel) rfl
theorem tw_853 : (Jvm.Cond.code ({ cls := "java/lang/StringLatin1", name := "canEncode", desc := "(I)Z" } : Jvm.MethodName) prog_17_method_4_code (1 : Nat) (Option.some Jvm.ClassFile.FieldType.boolean)) ∈ zT := zTm 853 (by decide +kernel) rfl
theorem tw_854 : (Jvm.Cond.methodLink "java/lang/StringLatin1" (92 : Nat) ({ cls := "java/lang/Math", name := "max", desc := "(II)I" } : Jvm.MethodName)) ∈ zT := zTm 854 (by decide +kernel) rfl
theorem tw_855 : (Jvm.Cond.methodLink "java/lang/StringLatin1" (38 : Nat) ({ cls := "java/lang/Math", name := "min", desc := "(II)I" } : Jvm.MethodName)) ∈ zT := zTm 855 (by decide +kernel) rfl
theorem tw_856 : (Jvm.Cond.methodLink "java/lang/StringLatin1" (95 : Nat) ({ cls := "java/lang/StringLatin1", name := "indexOfChar", desc := "([BIII)I" } : Jvm.MethodName)) ∈ zT := zTm 856 (by decide +kernel) rfl
theorem tw_857 : (Jvm.Cond.static ({ cls := "java/lang/StringLatin1", name := "indexOfChar", desc := "([BIII)I" } : Jvm.MethodName)) ∈ zT := zTm 857 (by decide +kernel) rfl
theorem tw_858 : (Jvm.Cond.code ({ cls := "java/lang/StringLatin1", name := "indexOfChar", desc := "([BIII)I" } : Jvm.MethodName) prog_17_method_23_code (6 : Nat) (Option.some Jvm.ClassFile.FieldType.int)) ∈ zT := zTm 858 (by decide +kernel) rfl
theorem tw_859 : (Jvm.Cond.methodLink "java/lang/String" (640 : Nat) ({ cls := "java/lang/StringUTF16", name := "indexOf", desc := "([BIII)I" } : Jvm.MethodName)) ∈ zT := zTm 859 (by decide +kernel) rfl
theorem tw_860 : (Jvm.Cond.static ({ cls := "java/lang/StringUTF16", name := "indexOf", desc := "([BIII)I" } : Jvm.MethodName)) ∈ zT := zTm 860 (by decide +kernel) rfl
theorem tw_861 : (Jvm.Cond.code ({ cls := "java/lang/StringUTF16", name := "indexOf", desc := "([BIII)I" } : Jvm.MethodName) prog_18_method_40_code (4 : Nat) (Option.some Jvm.ClassFile.FieldType.int)) ∈ zT := zTm 861 (by decide +kernel) rfl
theorem tw_862 : (Jvm.Cond.methodLink "java/lang/StringUTF16" (224 : Nat) ({ cls := "java/lang/Math", name := "max", desc := "(II)I" } : Jvm.MethodName)) ∈ zT := zTm 862 (by decide +kernel) rfl
theorem tw_863 : (Jvm.Cond.methodLink "java/lang/StringUTF16" (183 : Nat) ({ cls := "java/lang/Math", name := "min", desc := "(II)I" } : Jvm.MethodName)) ∈ zT := zTm 863 (by decide +kernel) rfl
theorem tw_864 : (Jvm.Cond.constant "java/lang/StringUTF16" (227 : Nat) (65536 : Int32)) ∈ zT := zTm 864 (by decide +kernel) rfl
theorem tw_865 : (Jvm.Cond.methodLink "java/lang/StringUTF16" (228 : Nat) ({ cls := "java/lang/StringUTF16", name := "indexOfChar", desc := "([BIII)I" } : Jvm.MethodName)) ∈ zT := zTm 865 (by decide +kernel) rfl
theorem tw_866 : (Jvm.Cond.static ({ cls := "java/lang/StringUTF16", name := "indexOfChar", desc := "([BIII)I" } : Jvm.MethodName)) ∈ zT := zTm 866 (by decide +kernel) rfl
theorem tw_867 : (Jvm.Cond.code ({ cls := "java/lang/StringUTF16", name := "indexOfChar", desc := "([BIII)I" } : Jvm.MethodName) prog_18_method_47_code (4 : Nat) (Option.some Jvm.ClassFile.FieldType.int)) ∈ zT := zTm 867 (by decide +kernel) rfl
theorem tw_868 : (Jvm.Cond.methodLink "java/lang/StringUTF16" (96 : Nat) ({ cls := "java/lang/StringUTF16", name := "checkBoundsBeginEnd", desc := "(II[B)V" } : Jvm.MethodName)) ∈ zT := zTm 868 (by decide +kernel) rfl
theorem tw_869 : (Jvm.Cond.static ({ cls := "java/lang/StringUTF16", name := "checkBoundsBeginEnd", desc := "(II[B)V" } : Jvm.MethodName)) ∈ zT := zTm 869 (by decide +kernel) rfl
theorem tw_870 : (Jvm.Cond.code ({ cls := "java/lang/StringUTF16", name := "checkBoundsBeginEnd", desc := "(II[B)V" } : Jvm.MethodName) prog_18_method_93_code (3 : Nat) (Option.none : Option Jvm.ClassFile.FieldType)) ∈ zT := zTm 870 (by decide +kernel) rfl
theorem tw_871 : (Jvm.Cond.methodLink "java/lang/StringUTF16" (241 : Nat) ({ cls := "java/lang/String", name := "checkBoundsBeginEnd", desc := "(III)V" } : Jvm.MethodName)) ∈ zT := zTm 871 (by decide +kernel) rfl
theorem tw_872 : (Jvm.Cond.static ({ cls := "java/lang/String", name := "checkBoundsBeginEnd", desc := "(III)V" } : Jvm.MethodName)) ∈ zT := zTm 872 (by decide +kernel) rfl
theorem tw_873 : (Jvm.Cond.code ({ cls := "java/lang/String", name := "checkBoundsBeginEnd", desc := "(III)V" } : Jvm.MethodName) prog_16_method_158_code (3 : Nat) (Option.none : Option Jvm.ClassFile.FieldType)) ∈ zT := zTm 873 (by decide +kernel) rfl
theorem tw_874 : (Jvm.Cond.methodLink "java/lang/String" (1062 : Nat) ({ cls := "jdk/internal/util/Preconditions", name := "checkFromToIndex", desc := "(IIILjava/util/function/BiFunction;)I" } : Jvm.MethodName)) ∈ zT := zTm 874 (by decide +kernel) rfl
theorem tw_875 : (Jvm.Cond.static ({ cls := "jdk/internal/util/Preconditions", name := "checkFromToIndex", desc := "(IIILjava/util/function/BiFunction;)I" } : Jvm.MethodName)) ∈ zT := zTm 875 (by decide +kernel) rfl
theorem tw_876 : (Jvm.Cond.code ({ cls := "jdk/internal/util/Preconditions", name := "checkFromToIndex", desc := "(IIILjava/util/function/BiFunction;)I" } : Jvm.MethodName) prog_21_method_12_code (4 : Nat) (Option.some Jvm.ClassFile.FieldType.int)) ∈ zT := zTm 876 (by decide +kernel) rfl
theorem tw_877 : (Jvm.Cond.methodLink "java/lang/StringUTF16" (244 : Nat) ({ cls := "java/lang/StringUTF16", name := "indexOfCharUnsafe", desc := "([BIII)I" } : Jvm.MethodName)) ∈ zT := zTm 877 (by decide +kernel) rfl
theorem tw_878 : (Jvm.Cond.static ({ cls := "java/lang/StringUTF16", name := "indexOfCharUnsafe", desc := "([BIII)I" } : Jvm.MethodName)) ∈ zT := zTm 878 (by decide +kernel) rfl
theorem tw_879 : (Jvm.Cond.code ({ cls := "java/lang/StringUTF16", name := "indexOfCharUnsafe", desc := "([BIII)I" } : Jvm.MethodName) prog_18_method_48_code (5 : Nat) (Option.some Jvm.ClassFile.FieldType.int)) ∈ zT := zTm 879 (by decide +kernel) rfl
theorem tw_880 : (Jvm.Cond.methodLink "java/lang/StringUTF16" (232 : Nat) ({ cls := "java/lang/StringUTF16", name := "indexOfSupplementary", desc := "([BIII)I" } : Jvm.MethodName)) ∈ zT := zTm 880 (by decide +kernel) rfl
theorem tw_881 : (Jvm.Cond.static ({ cls := "java/lang/StringUTF16", name := "indexOfSupplementary", desc := "([BIII)I" } : Jvm.MethodName)) ∈ zT := zTm 881 (by decide +kernel) rfl
theorem tw_882 : (Jvm.Cond.code ({ cls := "java/lang/StringUTF16", name := "indexOfSupplementary", desc := "([BIII)I" } : Jvm.MethodName) prog_18_method_49_code (7 : Nat) (Option.some Jvm.ClassFile.FieldType.int)) ∈ zT := zTm 882 (by decide +kernel) rfl
theorem tw_883 : (Jvm.Cond.methodLink "java/lang/StringUTF16" (164 : Nat) ({ cls := "java/lang/Character", name := "isValidCodePoint", desc := "(I)Z" } : Jvm.MethodName)) ∈ zT := zTm 883 (by decide +kernel) rfl
theorem tw_884 : (Jvm.Cond.static ({ cls := "java/lang/Character", name := "isValidCodePoint", desc := "(I)Z" } : Jvm.MethodName)) ∈ zT := zTm 884 (by decide +kernel) rfl
theorem tw_885 : (Jvm.Cond.code ({ cls := "java/lang/Character", name := "isValidCodePoint", desc := "(I)Z" } : Jvm.MethodName) prog_13_method_11_code (2 : Nat) (Option.some Jvm.ClassFile.FieldType.boolean)) ∈ zT := zTm 885 (by decide +kernel) rfl
theorem tw_886 : (Jvm.Cond.methodLink "java/lang/StringUTF16" (157 : Nat) ({ cls := "java/lang/Character", name := "highSurrogate", desc := "(I)C" } : Jvm.MethodName)) ∈ zT := zTm 886 (by decide +kernel) rfl
theorem tw_887 : (Jvm.Cond.static ({ cls := "java/lang/Character", name := "highSurrogate", desc := "(I)C" } : Jvm.MethodName)) ∈ zT := zTm 887 (by decide +kernel) rfl
theorem tw_888 : (Jvm.Cond.code ({ cls := "java/lang/Character", name := "highSurrogate", desc := "(I)C" } : Jvm.MethodName) prog_13_method_28_code (1 : Nat) (Option.some Jvm.ClassFile.FieldType.char)) ∈ zT := zTm 888 (by decide +kernel) rfl
theorem tw_889 : (Jvm.Cond.constant "java/lang/Character" (110 : Nat) (55232 : Int32)) ∈ zT := zTm 889 (by decide +kernel) rfl
theorem tw_890 : (Jvm.Cond.methodLink "java/lang/StringUTF16" (161 : Nat) ({ cls := "java/lang/Character", name := "lowSurrogate", desc := "(I)C" } : Jvm.MethodName)) ∈ zT := zTm 890 (by decide +kernel) rfl
theorem tw_891 : (Jvm.Cond.static ({ cls := "java/lang/Character", name := "lowSurrogate", desc := "(I)C" } : Jvm.MethodName)) ∈ zT := zTm 891 (by decide +kernel) rfl
theorem tw_892 : (Jvm.Cond.code ({ cls := "java/lang/Character", name := "lowSurrogate", desc := "(I)C" } : Jvm.MethodName) prog_13_method_29_code (1 : Nat) (Option.some Jvm.ClassFile.FieldType.char)) ∈ zT := zTm 892 (by decide +kernel) rfl
theorem tw_893 : (Jvm.Cond.constant "java/lang/Character" (76 : Nat) (56320 : Int32)) ∈ zT := zTm 893 (by decide +kernel) rfl
theorem tw_894 : (Jvm.Cond.methodLink "RegretLocks$Parser" (124 : Nat) ({ cls := "RegretLocks$Parser", name := "opens", desc := "(B)Z" } : Jvm.MethodName)) ∈ zT := zTm 894 (by decide +kernel) rfl
theorem tw_896 : (Jvm.Cond.instanceMethod ({ cls := "RegretLocks$Parser", name := "opens", desc := "(B)Z" } : Jvm.MethodName)) ∈ zT := zTm 896 (by decide +kernel) rfl
theorem tw_897 : (Jvm.Cond.code ({ cls := "RegretLocks$Parser", name := "opens", desc := "(B)Z" } : Jvm.MethodName) prog_4_method_12_code (2 : Nat) (Option.some Jvm.ClassFile.FieldType.boolean)) ∈ zT := zTm 897 (by decide +kernel) rfl
theorem tw_898 : (Jvm.Cond.methodLink "RegretLocks$Parser" (143 : Nat) ({ cls := "RegretLocks$Parser", name := "putOff", desc := "(I)V" } : Jvm.MethodName)) ∈ zT := zTm 898 (by decide +kernel) rfl
theorem tw_900 : (Jvm.Cond.instanceMethod ({ cls := "RegretLocks$Parser", name := "putOff", desc := "(I)V" } : Jvm.MethodName)) ∈ zT := zTm 900 (by decide +kernel) rfl
theorem tw_901 : (Jvm.Cond.code ({ cls := "RegretLocks$Parser", name := "putOff", desc := "(I)V" } : Jvm.MethodName) prog_4_method_16_code (2 : Nat) (Option.none : Option Jvm.ClassFile.FieldType)) ∈ zT := zTm 901 (by decide +kernel) rfl
theorem tw_902 : (Jvm.Cond.methodLink "RegretLocks$Parser" (51 : Nat) ({ cls := "RegretLocks$Parser", name := "takesSign", desc := "()Z" } : Jvm.MethodName)) ∈ zT := zTm 902 (by decide +kernel) rfl
theorem tw_904 : (Jvm.Cond.instanceMethod ({ cls := "RegretLocks$Parser", name := "takesSign", desc := "()Z" } : Jvm.MethodName)) ∈ zT := zTm 904 (by decide +kernel) rfl
theorem tw_905 : (Jvm.Cond.code ({ cls := "RegretLocks$Parser", name := "takesSign", desc := "()Z" } : Jvm.MethodName) prog_4_method_13_code (3 : Nat) (Option.some Jvm.ClassFile.FieldType.boolean)) ∈ zT := zTm 905 (by decide +kernel) rfl
theorem tw_906 : (Jvm.Cond.methodLink "RegretLocks$Parser" (146 : Nat) ({ cls := "RegretLocks$Parser", name := "closesBracket", desc := "()Z" } : Jvm.MethodName)) ∈ zT := zTm 906 (by decide +kernel) rfl
theorem tw_908 : (Jvm.Cond.instanceMethod ({ cls := "RegretLocks$Parser", name := "closesBracket", desc := "()Z" } : Jvm.MethodName)) ∈ zT := zTm 908 (by decide +kernel) rfl
theorem tw_909 : (Jvm.Cond.code ({ cls := "RegretLocks$Parser", name := "closesBracket", desc := "()Z" } : Jvm.MethodName) prog_4_method_14_code (1 : Nat) (Option.some Jvm.ClassFile.FieldType.boolean)) ∈ zT := zTm 909 (by decide +kernel) rfl
theorem tw_910 : (Jvm.Cond.methodLink "RegretLocks$Parser" (60 : Nat) ({ cls := "RegretLocks$Parser", name := "closeDownTo", desc := "(I)V" } : Jvm.MethodName)) ∈ zT := zTm 910 (by decide +kernel) rfl
theorem tw_912 : (Jvm.Cond.instanceMethod ({ cls := "RegretLocks$Parser", name := "closeDownTo", desc := "(I)V" } : Jvm.MethodName)) ∈ zT := zTm 912 (by decide +kernel) rfl
theorem tw_913 : (Jvm.Cond.code ({ cls := "RegretLocks$Parser", name := "closeDownTo", desc := "(I)V" } : Jvm.MethodName) prog_4_method_17_code (2 : Nat) (Option.none : Option Jvm.ClassFile.FieldType)) ∈ zT := zTm 913 (by decide +kernel) rfl
theorem tw_914 : (Jvm.Cond.methodLink "RegretLocks$Parser" (149 : Nat) ({ cls := "RegretLocks$Parser", name := "levelOf", desc := "(I)I" } : Jvm.MethodName)) ∈ zT := zTm 914 (by decide +kernel) rfl
theorem tw_915 : (Jvm.Cond.static ({ cls := "RegretLocks$Parser", name := "levelOf", desc := "(I)I" } : Jvm.MethodName)) ∈ zT := zTm 915 (by decide +kernel) rfl
theorem tw_916 : (Jvm.Cond.code ({ cls := "RegretLocks$Parser", name := "levelOf", desc := "(I)I" } : Jvm.MethodName) prog_4_method_15_code (1 : Nat) (Option.some Jvm.ClassFile.FieldType.int)) ∈ zT := zTm 916 (by decide +kernel) rfl
theorem tw_917 : (Jvm.Cond.methodLink "RegretLocks" (267 : Nat) ({ cls := "RegretLocks$Parser", name := "makeText", desc := "(I)LRegretLocks$Text;" } : Jvm.MethodName)) ∈ zT := zTm 917 (by decide +kernel) rfl
theorem tw_918 : (Jvm.Cond.instanceMethod ({ cls := "RegretLocks$Parser", name := "makeText", desc := "(I)LRegretLocks$Text;" } : Jvm.MethodName)) ∈ zT := zTm 918 (by decide +kernel) rfl
theorem tw_919 : (Jvm.Cond.selects "RegretLocks$Parser" ({ cls := "RegretLocks$Parser", name := "makeText", desc := "(I)LRegretLocks$Text;" } : Jvm.MethodName) ({ cls := "RegretLocks$Parser", name := "makeText", desc := "(I)LRegretLocks$Text;" } : Jvm.MethodName)) ∈ zT := zTm 919 (by decide +kernel) rfl
theorem tw_920 : (Jvm.Cond.code ({ cls := "RegretLocks$Parser", name := "makeText", desc := "(I)LRegretLocks$Text;" } : Jvm.MethodName) prog_4_method_3_code (2 : Nat) (Option.some (Jvm.ClassFile.FieldType.object "RegretLocks$Text"))) ∈ zT := zTm 920 (by decide +kernel) rfl
theorem tw_921 : (Jvm.Cond.classLink "RegretLocks$Parser" (64 : Nat) "RegretLocks$Text") ∈ zT := zTm 921 (by decide +kernel) rfl
theorem tw_922 : (Jvm.Cond.instantiable "RegretLocks$Text" (5 : Nat)) ∈ zT := zTm 922 (by decide +kernel) rfl
theorem tw_923 : (Jvm.Cond.methodLink "RegretLocks$Parser" (72 : Nat) ({ cls := "java/util/Arrays", name := "copyOf", desc := "([II)[I" } : Jvm.MethodName)) ∈ zT := zTm 923 (by decide +kernel) rfl
theorem tw_924 : (Jvm.Cond.static ({ cls := "java/util/Arrays", name := "copyOf", desc := "([II)[I" } : Jvm.MethodName)) ∈ zT := zTm 924 (by decide +kernel) rfl
theorem tw_925 : (Jvm.Cond.code ({ cls := "java/util/Arrays", name := "copyOf", desc := "([II)[I" } : Jvm.MethodName) prog_20_method_123_code (3 : Nat) (Option.some (Jvm.ClassFile.FieldType.array Jvm.ClassFile.FieldType.int))) ∈ zT := zTm 925 (by decide +kernel) rfl
theorem tw_933 : (Jvm.Cond.methodLink "java/util/Arrays" (304 : Nat) ({ cls := "java/lang/Math", name := "min", desc := "(II)I" } : Jvm.MethodName)) ∈ zT := zTm 933 (by decide +kernel) rfl
theorem tw_937 : (Jvm.Cond.methodLink "RegretLocks$Parser" (78 : Nat) ({ cls := "RegretLocks$Text", name := "<init>", desc := "(III[I)V" } : Jvm.MethodName)) ∈ zT := zTm 937 (by decide +kernel) rfl
theorem tw_938 : (Jvm.Cond.instanceMethod ({ cls := "RegretLocks$Text", name := "<init>", desc := "(III[I)V" } : Jvm.MethodName)) ∈ zT := zTm 938 (by decide +kernel) rfl
theorem tw_939 : (Jvm.Cond.code ({ cls := "RegretLocks$Text", name := "<init>", desc := "(III[I)V" } : Jvm.MethodName) prog_8_method_1_code (5 : Nat) (Option.none : Option Jvm.ClassFile.FieldType)) ∈ zT := zTm 939 (by decide +kernel) rfl
theorem tw_940 : (Jvm.Cond.methodLink "RegretLocks$Text" (1 : Nat) ({ cls := "java/lang/Object", name := "<init>", desc := "()V" } : Jvm.MethodName)) ∈ zT := zTm 940 (by decide +kernel) rfl
theorem tw_941 : (Jvm.Cond.fieldLink "RegretLocks$Text" (7 : Nat) "RegretLocks$Text" "number" "I") ∈ zT := zTm 941 (by decide +kernel) rfl
theorem tw_942 : (Jvm.Cond.fieldLink "RegretLocks" (280 : Nat) "RegretLocks$Text" "number" "I") ∈ zT := zTm 942 (by decide +kernel) rfl
theorem tw_943 : (Jvm.Cond.fieldLink "RegretLocks$Text" (13 : Nat) "RegretLocks$Text" "key" "I") ∈ zT := zTm 943 (by decide +kernel) rfl
theorem tw_944 : (Jvm.Cond.fieldLink "RegretLocks" (274 : Nat) "RegretLocks$Text" "key" "I") ∈ zT := zTm 944 (by decide +kernel) rfl
theorem tw_945 : (Jvm.Cond.fieldLink "RegretLocks$Text" (16 : Nat) "RegretLocks$Text" "pieces" "I") ∈ zT := zTm 945 (by decide +kernel) rfl
theorem tw_946 : (Jvm.Cond.fieldLink "RegretLocks" (277 : Nat) "RegretLocks$Text" "pieces" "I") ∈ zT := zTm 946 (by decide +kernel) rfl
theorem tw_947 : (Jvm.Cond.fieldLink "RegretLocks$Text" (19 : Nat) "RegretLocks$Text" "row" "[I") ∈ zT := zTm 947 (by decide +kernel) rfl
theorem tw_948 : (Jvm.Cond.fieldLink "RegretLocks$Text" (23 : Nat) "RegretLocks$Text" "stack" "[I") ∈ zT := zTm 948 (by decide +kernel) rfl
theorem tw_960 : (Jvm.Cond.methodLink "RegretLocksLaw" (143 : Nat) ({ cls := "RegretLocks", name := "textTold", desc := "(II)I" } : Jvm.MethodName)) ∈ zT := zTm 960 (by decide +kernel) rfl
theorem tw_961 : (Jvm.Cond.instanceMethod ({ cls := "RegretLocks", name := "textTold", desc := "(II)I" } : Jvm.MethodName)) ∈ zT := zTm 961 (by decide +kernel) rfl
theorem tw_962 : (Jvm.Cond.selects "RegretLocks" ({ cls := "RegretLocks", name := "textTold", desc := "(II)I" } : Jvm.MethodName) ({ cls := "RegretLocks", name := "textTold", desc := "(II)I" } : Jvm.MethodName)) ∈ zT := zTm 962 (by decide +kernel) rfl
theorem tw_963 : (Jvm.Cond.code ({ cls := "RegretLocks", name := "textTold", desc := "(II)I" } : Jvm.MethodName) prog_1_method_33_code (4 : Nat) (Option.some Jvm.ClassFile.FieldType.int)) ∈ zT := zTm 963 (by decide +kernel) rfl
theorem tw_964 : (Jvm.Cond.methodLink "RegretLocksLaw" (147 : Nat) ({ cls := "RegretLocks", name := "why", desc := "(I)I" } : Jvm.MethodName)) ∈ zT := zTm 964 (by decide +kernel) rfl
theorem tw_965 : (Jvm.Cond.instanceMethod ({ cls := "RegretLocks", name := "why", desc := "(I)I" } : Jvm.MethodName)) ∈ zT := zTm 965 (by decide +kernel) rfl
theorem tw_966 : (Jvm.Cond.selects "RegretLocks" ({ cls := "RegretLocks", name := "why", desc := "(I)I" } : Jvm.MethodName) ({ cls := "RegretLocks", name := "why", desc := "(I)I" } : Jvm.MethodName)) ∈ zT := zTm 966 (by decide +kernel) rfl
theorem tw_967 : (Jvm.Cond.code ({ cls := "RegretLocks", name := "why", desc := "(I)I" } : Jvm.MethodName) prog_1_method_34_code (3 : Nat) (Option.some Jvm.ClassFile.FieldType.int)) ∈ zT := zTm 967 (by decide +kernel) rfl
theorem tw_968 : (Jvm.Cond.methodLink "RegretLocksLaw" (151 : Nat) ({ cls := "RegretLocks", name := "sheet", desc := "(III)I" } : Jvm.MethodName)) ∈ zT := zTm 968 (by decide +kernel) rfl
theorem tw_969 : (Jvm.Cond.instanceMethod ({ cls := "RegretLocks", name := "sheet", desc := "(III)I" } : Jvm.MethodName)) ∈ zT := zTm 969 (by decide +kernel) rfl
theorem tw_970 : (Jvm.Cond.selects "RegretLocks" ({ cls := "RegretLocks", name := "sheet", desc := "(III)I" } : Jvm.MethodName) ({ cls := "RegretLocks", name := "sheet", desc := "(III)I" } : Jvm.MethodName)) ∈ zT := zTm 970 (by decide +kernel) rfl
theorem tw_971 : (Jvm.Cond.code ({ cls := "RegretLocks", name := "sheet", desc := "(III)I" } : Jvm.MethodName) prog_1_method_35_code (4 : Nat) (Option.some Jvm.ClassFile.FieldType.int)) ∈ zT := zTm 971 (by decide +kernel) rfl
theorem tw_972 : (Jvm.Cond.methodLink "RegretLocks" (283 : Nat) ({ cls := "RegretLocks$Sheet", name := "become", desc := "(II)V" } : Jvm.MethodName)) ∈ zT := zTm 972 (by decide +kernel) rfl
theorem tw_973 : (Jvm.Cond.instanceMethod ({ cls := "RegretLocks$Sheet", name := "become", desc := "(II)V" } : Jvm.MethodName)) ∈ zT := zTm 973 (by decide +kernel) rfl
theorem tw_974 : (Jvm.Cond.selects "RegretLocks$Sheet" ({ cls := "RegretLocks$Sheet", name := "become", desc := "(II)V" } : Jvm.MethodName) ({ cls := "RegretLocks$Sheet", name := "become", desc := "(II)V" } : Jvm.MethodName)) ∈ zT := zTm 974 (by decide +kernel) rfl
theorem tw_975 : (Jvm.Cond.code ({ cls := "RegretLocks$Sheet", name := "become", desc := "(II)V" } : Jvm.MethodName) prog_6_method_2_code (3 : Nat) (Option.none : Option Jvm.ClassFile.FieldType)) ∈ zT := zTm 975 (by decide +kernel) rfl
theorem tw_976 : (Jvm.Cond.methodLink "RegretLocks$Sheet" (22 : Nat) ({ cls := "java/util/Arrays", name := "fill", desc := "([II)V" } : Jvm.MethodName)) ∈ zT := zTm 976 (by decide +kernel) rfl
theorem tw_977 : (Jvm.Cond.constant "RegretLocks" (286 : Nat) (-1000000014 : Int32)) ∈ zT := zTm 977 (by decide +kernel) rfl
theorem tw_978 : (Jvm.Cond.methodLink "RegretLocksLaw" (155 : Nat) ({ cls := "RegretLocks", name := "mark", desc := "(III)I" } : Jvm.MethodName)) ∈ zT := zTm 978 (by decide +kernel) rfl
theorem tw_979 : (Jvm.Cond.instanceMethod ({ cls := "RegretLocks", name := "mark", desc := "(III)I" } : Jvm.MethodName)) ∈ zT := zTm 979 (by decide +kernel) rfl
theorem tw_980 : (Jvm.Cond.selects "RegretLocks" ({ cls := "RegretLocks", name := "mark", desc := "(III)I" } : Jvm.MethodName) ({ cls := "RegretLocks", name := "mark", desc := "(III)I" } : Jvm.MethodName)) ∈ zT := zTm 980 (by decide +kernel) rfl
theorem tw_981 : (Jvm.Cond.code ({ cls := "RegretLocks", name := "mark", desc := "(III)I" } : Jvm.MethodName) prog_1_method_36_code (5 : Nat) (Option.some Jvm.ClassFile.FieldType.int)) ∈ zT := zTm 981 (by decide +kernel) rfl
theorem tw_982 : (Jvm.Cond.methodLink "RegretLocks" (287 : Nat) ({ cls := "RegretLocks$Sheet", name := "hasPlace", desc := "(I)Z" } : Jvm.MethodName)) ∈ zT := zTm 982 (by decide +kernel) rfl
theorem tw_983 : (Jvm.Cond.instanceMethod ({ cls := "RegretLocks$Sheet", name := "hasPlace", desc := "(I)Z" } : Jvm.MethodName)) ∈ zT := zTm 983 (by decide +kernel) rfl
theorem tw_984 : (Jvm.Cond.selects "RegretLocks$Sheet" ({ cls := "RegretLocks$Sheet", name := "hasPlace", desc := "(I)Z" } : Jvm.MethodName) ({ cls := "RegretLocks$Sheet", name := "hasPlace", desc := "(I)Z" } : Jvm.MethodName)) ∈ zT := zTm 984 (by decide +kernel) rfl
theorem tw_985 : (Jvm.Cond.code ({ cls := "RegretLocks$Sheet", name := "hasPlace", desc := "(I)Z" } : Jvm.MethodName) prog_6_method_5_code (2 : Nat) (Option.some Jvm.ClassFile.FieldType.boolean)) ∈ zT := zTm 985 (by decide +kernel) rfl
theorem tw_986 : (Jvm.Cond.constant "RegretLocks" (290 : Nat) (-1000000013 : Int32)) ∈ zT := zTm 986 (by decide +kernel) rfl
theorem tw_987 : (Jvm.Cond.constant "RegretLocks" (295 : Nat) (-99999 : Int32)) ∈ zT := zTm 987 (by decide +kernel) rfl
theorem tw_988 : (Jvm.Cond.constant "RegretLocks" (296 : Nat) (99999 : Int32)) ∈ zT := zTm 988 (by decide +kernel) rfl
theorem tw_989 : (Jvm.Cond.methodLink "RegretLocksLaw" (159 : Nat) ({ cls := "RegretLocks", name := "pour", desc := "(I)I" } : Jvm.MethodName)) ∈ zT := zTm 989 (by decide +kernel) rfl
theorem tw_990 : (Jvm.Cond.instanceMethod ({ cls := "RegretLocks", name := "pour", desc := "(I)I" } : Jvm.MethodName)) ∈ zT := zTm 990 (by decide +kernel) rfl
theorem tw_991 : (Jvm.Cond.selects "RegretLocks" ({ cls := "RegretLocks", name := "pour", desc := "(I)I" } : Jvm.MethodName) ({ cls := "RegretLocks", name := "pour", desc := "(I)I" } : Jvm.MethodName)) ∈ zT := zTm 991 (by decide +kernel) rfl
theorem tw_992 : (Jvm.Cond.code ({ cls := "RegretLocks", name := "pour", desc := "(I)I" } : Jvm.MethodName) prog_1_method_37_code (7 : Nat) (Option.some Jvm.ClassFile.FieldType.int)) ∈ zT := zTm 992 (by decide +kernel) rfl
theorem tw_993 : (Jvm.Cond.methodLink "RegretLocks" (303 : Nat) ({ cls := "RegretLocks", name := "held", desc := "(II)I" } : Jvm.MethodName)) ∈ zT := zTm 993 (by decide +kernel) rfl
theorem tw_994 : (Jvm.Cond.methodLink "RegretLocksLaw" (163 : Nat) ({ cls := "RegretLocks", name := "reads", desc := "(I)I" } : Jvm.MethodName)) ∈ zT := zTm 994 (by decide +kernel) rfl
theorem tw_995 : (Jvm.Cond.instanceMethod ({ cls := "RegretLocks", name := "reads", desc := "(I)I" } : Jvm.MethodName)) ∈ zT := zTm 995 (by decide +kernel) rfl
theorem tw_996 : (Jvm.Cond.selects "RegretLocks" ({ cls := "RegretLocks", name := "reads", desc := "(I)I" } : Jvm.MethodName) ({ cls := "RegretLocks", name := "reads", desc := "(I)I" } : Jvm.MethodName)) ∈ zT := zTm 996 (by decide +kernel) rfl
theorem tw_997 : (Jvm.Cond.code ({ cls := "RegretLocks", name := "reads", desc := "(I)I" } : Jvm.MethodName) prog_1_method_38_code (4 : Nat) (Option.some Jvm.ClassFile.FieldType.int)) ∈ zT := zTm 997 (by decide +kernel) rfl
theorem tw_998 : (Jvm.Cond.methodLink "RegretLocksLaw" (167 : Nat) ({ cls := "RegretLocks", name := "copy", desc := "(IIIII)I" } : Jvm.MethodName)) ∈ zT := zTm 998 (by decide +kernel) rfl
theorem tw_999 : (Jvm.Cond.instanceMethod ({ cls := "RegretLocks", name := "copy", desc := "(IIIII)I" } : Jvm.MethodName)) ∈ zT := zTm 999 (by decide +kernel) rfl
theorem tw_1000 : (Jvm.Cond.selects "RegretLocks" ({ cls := "RegretLocks", name := "copy", desc := "(IIIII)I" } : Jvm.MethodName) ({ cls := "RegretLocks", name := "copy", desc := "(IIIII)I" } : Jvm.MethodName)) ∈ zT := zTm 1000 (by decide +kernel) rfl
theorem tw_1001 : (Jvm.Cond.code ({ cls := "RegretLocks", name := "copy", desc := "(IIIII)I" } : Jvm.MethodName) prog_1_method_39_code (8 : Nat) (Option.some Jvm.ClassFile.FieldType.int)) ∈ zT := zTm 1001 (by decide +kernel) rfl
theorem tw_1002 : (Jvm.Cond.methodLink "RegretLocks" (306 : Nat) ({ cls := "RegretLocks$Sheet", name := "hasPlaces", desc := "(II)Z" } : Jvm.MethodName)) ∈ zT := zTm 1002 (by decide +kernel) rfl
theorem tw_1003 : (Jvm.Cond.instanceMethod ({ cls := "RegretLocks$Sheet", name := "hasPlaces", desc := "(II)Z" } : Jvm.MethodName)) ∈ zT := zTm 1003 (by decide +kernel) rfl
theorem tw_1004 : (Jvm.Cond.selects "RegretLocks$Sheet" ({ cls := "RegretLocks$Sheet", name := "hasPlaces", desc := "(II)Z" } : Jvm.MethodName) ({ cls := "RegretLocks$Sheet", name := "hasPlaces", desc := "(II)Z" } : Jvm.MethodName)) ∈ zT := zTm 1004 (by decide +kernel) rfl
theorem tw_1005 : (Jvm.Cond.code ({ cls := "RegretLocks$Sheet", name := "hasPlaces", desc := "(II)Z" } : Jvm.MethodName) prog_6_method_6_code (3 : Nat) (Option.some Jvm.ClassFile.FieldType.boolean)) ∈ zT := zTm 1005 (by decide +kernel) rfl
theorem tw_1007 : (Jvm.Cond.methodLink "RegretLocksLaw" (171 : Nat) ({ cls := "RegretLocks", name := "lay", desc := "(III)I" } : Jvm.MethodName)) ∈ zT := zTm 1007 (by decide +kernel) rfl
theorem tw_1008 : (Jvm.Cond.instanceMethod ({ cls := "RegretLocks", name := "lay", desc := "(III)I" } : Jvm.MethodName)) ∈ zT := zTm 1008 (by decide +kernel) rfl
theorem tw_1009 : (Jvm.Cond.selects "RegretLocks" ({ cls := "RegretLocks", name := "lay", desc := "(III)I" } : Jvm.MethodName) ({ cls := "RegretLocks", name := "lay", desc := "(III)I" } : Jvm.MethodName)) ∈ zT := zTm 1009 (by decide +kernel) rfl
theorem tw_1010 : (Jvm.Cond.code ({ cls := "RegretLocks", name := "lay", desc := "(III)I" } : Jvm.MethodName) prog_1_method_40_code (6 : Nat) (Option.some Jvm.ClassFile.FieldType.int)) ∈ zT := zTm 1010 (by decide +kernel) rfl
theorem tw_1011 : (Jvm.Cond.methodLink "RegretLocks" (315 : Nat) ({ cls := "RegretLocks", name := "isSlot", desc := "(I)Z" } : Jvm.MethodName)) ∈ zT := zTm 1011 (by decide +kernel) rfl
theorem tw_1012 : (Jvm.Cond.static ({ cls := "RegretLocks", name := "isSlot", desc := "(I)Z" } : Jvm.MethodName)) ∈ zT := zTm 1012 (by decide +kernel) rfl
theorem tw_1013 : (Jvm.Cond.code ({ cls := "RegretLocks", name := "isSlot", desc := "(I)Z" } : Jvm.MethodName) prog_1_method_55_code (1 : Nat) (Option.some Jvm.ClassFile.FieldType.boolean)) ∈ zT := zTm 1013 (by decide +kernel) rfl
theorem tw_1014 : (Jvm.Cond.methodLink "RegretLocks" (325 : Nat) ({ cls := "RegretLocks$Person", name := "becomeAs", desc := "(LRegretLocks$Person;)V" } : Jvm.MethodName)) ∈ zT := zTm 1014 (by decide +kernel) rfl
theorem tw_1015 : (Jvm.Cond.methodLink "RegretLocks" (332 : Nat) ({ cls := "RegretLocks$Sheet", name := "becomeAs", desc := "(LRegretLocks$Sheet;)V" } : Jvm.MethodName)) ∈ zT := zTm 1015 (by decide +kernel) rfl
theorem tw_1016 : (Jvm.Cond.instanceMethod ({ cls := "RegretLocks$Sheet", name := "becomeAs", desc := "(LRegretLocks$Sheet;)V" } : Jvm.MethodName)) ∈ zT := zTm 1016 (by decide +kernel) rfl
theorem tw_1017 : (Jvm.Cond.selects "RegretLocks$Sheet" ({ cls := "RegretLocks$Sheet", name := "becomeAs", desc := "(LRegretLocks$Sheet;)V" } : Jvm.MethodName) ({ cls := "RegretLocks$Sheet", name := "becomeAs", desc := "(LRegretLocks$Sheet;)V" } : Jvm.MethodName)) ∈ zT := zTm 1017 (by decide +kernel) rfl
theorem tw_1018 : (Jvm.Cond.code ({ cls := "RegretLocks$Sheet", name := "becomeAs", desc := "(LRegretLocks$Sheet;)V" } : Jvm.MethodName) prog_6_method_3_code (2 : Nat) (Option.none : Option Jvm.ClassFile.FieldType)) ∈ zT := zTm 1018 (by decide +kernel) rfl
theorem tw_1020 : (Jvm.Cond.methodLink "RegretLocksLaw" (175 : Nat) ({ cls := "RegretLocks", name := "ask", desc := "(II)I" } : Jvm.MethodName)) ∈ zT := zTm 1020 (by decide +kernel) rfl
theorem tw_1021 : (Jvm.Cond.instanceMethod ({ cls := "RegretLocks", name := "ask", desc := "(II)I" } : Jvm.MethodName)) ∈ zT := zTm 1021 (by decide +kernel) rfl
theorem tw_1022 : (Jvm.Cond.selects "RegretLocks" ({ cls := "RegretLocks", name := "ask", desc := "(II)I" } : Jvm.MethodName) ({ cls := "RegretLocks", name := "ask", desc := "(II)I" } : Jvm.MethodName)) ∈ zT := zTm 1022 (by decide +kernel) rfl
theorem tw_1023 : (Jvm.Cond.code ({ cls := "RegretLocks", name := "ask", desc := "(II)I" } : Jvm.MethodName) prog_1_method_41_code (4 : Nat) (Option.some Jvm.ClassFile.FieldType.int)) ∈ zT := zTm 1023 (by decide +kernel) rfl
theorem tw_1024 : (Jvm.Cond.methodLink "RegretLocksLaw" (179 : Nat) ({ cls := "RegretLocks", name := "item", desc := "(II)I" } : Jvm.MethodName)) ∈ zT := zTm 1024 (by decide +kernel) rfl
theorem tw_1025 : (Jvm.Cond.instanceMethod ({ cls := "RegretLocks", name := "item", desc := "(II)I" } : Jvm.MethodName)) ∈ zT := zTm 1025 (by decide +kernel) rfl
theorem tw_1026 : (Jvm.Cond.selects "RegretLocks" ({ cls := "RegretLocks", name := "item", desc := "(II)I" } : Jvm.MethodName) ({ cls := "RegretLocks", name := "item", desc := "(II)I" } : Jvm.MethodName)) ∈ zT := zTm 1026 (by decide +kernel) rfl
theorem tw_1027 : (Jvm.Cond.code ({ cls := "RegretLocks", name := "item", desc := "(II)I" } : Jvm.MethodName) prog_1_method_42_code (4 : Nat) (Option.some Jvm.ClassFile.FieldType.int)) ∈ zT := zTm 1027 (by decide +kernel) rfl
theorem tw_1028 : (Jvm.Cond.methodLink "RegretLocksLaw" (183 : Nat) ({ cls := "RegretLocks", name := "rest", desc := "(II)I" } : Jvm.MethodName)) ∈ zT := zTm 1028 (by decide +kernel) rfl
theorem tw_1029 : (Jvm.Cond.instanceMethod ({ cls := "RegretLocks", name := "rest", desc := "(II)I" } : Jvm.MethodName)) ∈ zT := zTm 1029 (by decide +kernel) rfl
theorem tw_1030 : (Jvm.Cond.selects "RegretLocks" ({ cls := "RegretLocks", name := "rest", desc := "(II)I" } : Jvm.MethodName) ({ cls := "RegretLocks", name := "rest", desc := "(II)I" } : Jvm.MethodName)) ∈ zT := zTm 1030 (by decide +kernel) rfl
theorem tw_1031 : (Jvm.Cond.code ({ cls := "RegretLocks", name := "rest", desc := "(II)I" } : Jvm.MethodName) prog_1_method_43_code (4 : Nat) (Option.some Jvm.ClassFile.FieldType.int)) ∈ zT := zTm 1031 (by decide +kernel) rfl
theorem tw_1032 : (Jvm.Cond.methodLink "RegretLocksLaw" (187 : Nat) ({ cls := "RegretLocks", name := "tell", desc := "(I)I" } : Jvm.MethodName)) ∈ zT := zTm 1032 (by decide +kernel) rfl
theorem tw_1033 : (Jvm.Cond.instanceMethod ({ cls := "RegretLocks", name := "tell", desc := "(I)I" } : Jvm.MethodName)) ∈ zT := zTm 1033 (by decide +kernel) rfl
theorem tw_1034 : (Jvm.Cond.selects "RegretLocks" ({ cls := "RegretLocks", name := "tell", desc := "(I)I" } : Jvm.MethodName) ({ cls := "RegretLocks", name := "tell", desc := "(I)I" } : Jvm.MethodName)) ∈ zT := zTm 1034 (by decide +kernel) rfl
theorem tw_1035 : (Jvm.Cond.code ({ cls := "RegretLocks", name := "tell", desc := "(I)I" } : Jvm.MethodName) prog_1_method_44_code (2 : Nat) (Option.some Jvm.ClassFile.FieldType.int)) ∈ zT := zTm 1035 (by decide +kernel) rfl
theorem tw_1036 : (Jvm.Cond.methodLink "RegretLocksLaw" (191 : Nat) ({ cls := "RegretLocks", name := "check", desc := "(I)I" } : Jvm.MethodName)) ∈ zT := zTm 1036 (by decide +kernel) rfl
theorem tw_1037 : (Jvm.Cond.instanceMethod ({ cls := "RegretLocks", name := "check", desc := "(I)I" } : Jvm.MethodName)) ∈ zT := zTm 1037 (by decide +kernel) rfl
theorem tw_1038 : (Jvm.Cond.selects "RegretLocks" ({ cls := "RegretLocks", name := "check", desc := "(I)I" } : Jvm.MethodName) ({ cls := "RegretLocks", name := "check", desc := "(I)I" } : Jvm.MethodName)) ∈ zT := zTm 1038 (by decide +kernel) rfl
theorem tw_1039 : (Jvm.Cond.code ({ cls := "RegretLocks", name := "check", desc := "(I)I" } : Jvm.MethodName) prog_1_method_45_code (6 : Nat) (Option.some Jvm.ClassFile.FieldType.int)) ∈ zT := zTm 1039 (by decide +kernel) rfl
theorem tw_1040 : (Jvm.Cond.methodLink "RegretLocksLaw" (195 : Nat) ({ cls := "RegretLocks", name := "keep", desc := "()I" } : Jvm.MethodName)) ∈ zT := zTm 1040 (by decide +kernel) rfl
theorem tw_1041 : (Jvm.Cond.instanceMethod ({ cls := "RegretLocks", name := "keep", desc := "()I" } : Jvm.MethodName)) ∈ zT := zTm 1041 (by decide +kernel) rfl
theorem tw_1042 : (Jvm.Cond.selects "RegretLocks" ({ cls := "RegretLocks", name := "keep", desc := "()I" } : Jvm.MethodName) ({ cls := "RegretLocks", name := "keep", desc := "()I" } : Jvm.MethodName)) ∈ zT := zTm 1042 (by decide +kernel) rfl
theorem tw_1043 : (Jvm.Cond.code ({ cls := "RegretLocks", name := "keep", desc := "()I" } : Jvm.MethodName) prog_1_method_46_code (1 : Nat) (Option.some Jvm.ClassFile.FieldType.int)) ∈ zT := zTm 1043 (by decide +kernel) rfl
theorem tw_1044 : (Jvm.Cond.methodLink "RegretLocksLaw" (199 : Nat) ({ cls := "RegretLocks", name := "back", desc := "()I" } : Jvm.MethodName)) ∈ zT := zTm 1044 (by decide +kernel) rfl
theorem tw_1045 : (Jvm.Cond.instanceMethod ({ cls := "RegretLocks", name := "back", desc := "()I" } : Jvm.MethodName)) ∈ zT := zTm 1045 (by decide +kernel) rfl
theorem tw_1046 : (Jvm.Cond.selects "RegretLocks" ({ cls := "RegretLocks", name := "back", desc := "()I" } : Jvm.MethodName) ({ cls := "RegretLocks", name := "back", desc := "()I" } : Jvm.MethodName)) ∈ zT := zTm 1046 (by decide +kernel) rfl
theorem tw_1047 : (Jvm.Cond.code ({ cls := "RegretLocks", name := "back", desc := "()I" } : Jvm.MethodName) prog_1_method_47_code (1 : Nat) (Option.some Jvm.ClassFile.FieldType.int)) ∈ zT := zTm 1047 (by decide +kernel) rfl
theorem tw_1048 : (Jvm.Cond.methodLink "RegretLocksLaw" (203 : Nat) ({ cls := "RegretLocks", name := "count", desc := "(I)I" } : Jvm.MethodName)) ∈ zT := zTm 1048 (by decide +kernel) rfl
theorem tw_1049 : (Jvm.Cond.instanceMethod ({ cls := "RegretLocks", name := "count", desc := "(I)I" } : Jvm.MethodName)) ∈ zT := zTm 1049 (by decide +kernel) rfl
theorem tw_1050 : (Jvm.Cond.selects "RegretLocks" ({ cls := "RegretLocks", name := "count", desc := "(I)I" } : Jvm.MethodName) ({ cls := "RegretLocks", name := "count", desc := "(I)I" } : Jvm.MethodName)) ∈ zT := zTm 1050 (by decide +kernel) rfl
theorem tw_1051 : (Jvm.Cond.code ({ cls := "RegretLocks", name := "count", desc := "(I)I" } : Jvm.MethodName) prog_1_method_48_code (2 : Nat) (Option.some Jvm.ClassFile.FieldType.int)) ∈ zT := zTm 1051 (by decide +kernel) rfl
theorem tw_1052 : (Jvm.Cond.classLink "RegretLocksLaw" (10 : Nat) "RegretLocksModel") ∈ zT := zTm 1052 (by decide +kernel) rfl
theorem tw_1053 : (Jvm.Cond.instantiable "RegretLocksModel" (33 : Nat)) ∈ zT := zTm 1053 (by decide +kernel) rfl
theorem tw_1054 : (Jvm.Cond.methodLink "RegretLocksLaw" (12 : Nat) ({ cls := "RegretLocksModel", name := "<init>", desc := "()V" } : Jvm.MethodName)) ∈ zT := zTm 1054 (by decide +kernel) rfl
theorem tw_1055 : (Jvm.Cond.instanceMethod ({ cls := "RegretLocksModel", name := "<init>", desc := "()V" } : Jvm.MethodName)) ∈ zT := zTm 1055 (by decide +kernel) rfl
theorem tw_1056 : (Jvm.Cond.code ({ cls := "RegretLocksModel", name := "<init>", desc := "()V" } : Jvm.MethodName) prog_12_method_1_code (2 : Nat) (Option.none : Option Jvm.ClassFile.FieldType)) ∈ zT := zTm 1056 (by decide +kernel) rfl
theorem tw_1057 : (Jvm.Cond.methodLink "RegretLocksModel" (1 : Nat) ({ cls := "java/lang/Object", name := "<init>", desc := "()V" } : Jvm.MethodName)) ∈ zT := zTm 1057 (by decide +kernel) rfl
theorem tw_1058 : (Jvm.Cond.fieldLink "RegretLocksModel" (7 : Nat) "RegretLocksModel" "s" "[I") ∈ zT := zTm 1058 (by decide +kernel) rfl
theorem tw_1059 : (Jvm.Cond.fieldLink "RegretLocksModel" (13 : Nat) "RegretLocksModel" "image" "[I") ∈ zT := zTm 1059 (by decide +kernel) rfl
theorem tw_1060 : (Jvm.Cond.fieldLink "RegretLocksModel" (16 : Nat) "RegretLocksModel" "aside" "[I") ∈ zT := zTm 1060 (by decide +kernel) rfl
theorem tw_1061 : (Jvm.Cond.fieldLink "RegretLocksModel" (333 : Nat) "RegretLocksModel" "hasImage" "Z") ∈ zT := zTm 1061 (by decide +kernel) rfl
theorem tw_1062 : (Jvm.Cond.fieldLink "RegretLocksModel" (19 : Nat) "RegretLocksModel" "tSort" "[I") ∈ zT := zTm 1062 (by decide +kernel) rfl
theorem tw_1063 : (Jvm.Cond.fieldLink "RegretLocksModel" (22 : Nat) "RegretLocksModel" "tSize" "[I") ∈ zT := zTm 1063 (by decide +kernel) rfl
theorem tw_1064 : (Jvm.Cond.fieldLink "RegretLocksModel" (25 : Nat) "RegretLocksModel" "tNumber" "[I") ∈ zT := zTm 1064 (by decide +kernel) rfl
theorem tw_1065 : (Jvm.Cond.fieldLink "RegretLocksModel" (28 : Nat) "RegretLocksModel" "held" "[I") ∈ zT := zTm 1065 (by decide +kernel) rfl
theorem tw_1066 : (Jvm.Cond.fieldLink "RegretLocksModel" (31 : Nat) "RegretLocksModel" "heldNumber" "[I") ∈ zT := zTm 1066 (by decide +kernel) rfl
theorem tw_1067 : (Jvm.Cond.fieldLink "RegretLocksModel" (34 : Nat) "RegretLocksModel" "heldWorth" "[I") ∈ zT := zTm 1067 (by decide +kernel) rfl
theorem tw_1068 : (Jvm.Cond.fieldLink "RegretLocksModel" (37 : Nat) "RegretLocksModel" "heldSize" "[I") ∈ zT := zTm 1068 (by decide +kernel) rfl
theorem tw_1069 : (Jvm.Cond.fieldLink "RegretLocksModel" (40 : Nat) "RegretLocksModel" "heldRow" "[I") ∈ zT := zTm 1069 (by decide +kernel) rfl
theorem tw_1070 : (Jvm.Cond.fieldLink "RegretLocksModel" (43 : Nat) "RegretLocksModel" "rooms" "[I") ∈ zT := zTm 1070 (by decide +kernel) rfl
theorem tw_1071 : (Jvm.Cond.fieldLink "RegretLocksModel" (46 : Nat) "RegretLocksModel" "wornTo" "[I") ∈ zT := zTm 1071 (by decide +kernel) rfl
theorem tw_1072 : (Jvm.Cond.fieldLink "RegretLocksModel" (49 : Nat) "RegretLocksModel" "close" "[I") ∈ zT := zTm 1072 (by decide +kernel) rfl
theorem tw_1073 : (Jvm.Cond.fieldLink "RegretLocksModel" (52 : Nat) "RegretLocksModel" "tape" "[I") ∈ zT := zTm 1073 (by decide +kernel) rfl
theorem tw_1074 : (Jvm.Cond.fieldLink "RegretLocksModel" (211 : Nat) "RegretLocksModel" "taped" "I") ∈ zT := zTm 1074 (by decide +kernel) rfl
theorem tw_1075 : (Jvm.Cond.fieldLink "RegretLocksModel" (229 : Nat) "RegretLocksModel" "begin" "I") ∈ zT := zTm 1075 (by decide +kernel) rfl
theorem tw_1076 : (Jvm.Cond.fieldLink "RegretLocksModel" (223 : Nat) "RegretLocksModel" "behind" "I") ∈ zT := zTm 1076 (by decide +kernel) rfl
theorem tw_1077 : (Jvm.Cond.fieldLink "RegretLocksModel" (226 : Nat) "RegretLocksModel" "token" "I") ∈ zT := zTm 1077 (by decide +kernel) rfl
theorem tw_1078 : (Jvm.Cond.fieldLink "RegretLocksModel" (241 : Nat) "RegretLocksModel" "number" "I") ∈ zT := zTm 1078 (by decide +kernel) rfl
theorem tw_1079 : (Jvm.Cond.fieldLink "RegretLocksModel" (235 : Nat) "RegretLocksModel" "letter" "I") ∈ zT := zTm 1079 (by decide +kernel) rfl
theorem tw_1080 : (Jvm.Cond.fieldLink "RegretLocksModel" (286 : Nat) "RegretLocksModel" "deep" "I") ∈ zT := zTm 1080 (by decide +kernel) rfl
theorem tw_1081 : (Jvm.Cond.fieldLink "RegretLocksModel" (283 : Nat) "RegretLocksModel" "turned" "I") ∈ zT := zTm 1081 (by decide +kernel) rfl
theorem tw_1082 : (Jvm.Cond.fieldLink "RegretLocksModel" (250 : Nat) "RegretLocksModel" "laid" "I") ∈ zT := zTm 1082 (by decide +kernel) rfl
theorem tw_1083 : (Jvm.Cond.fieldLink "RegretLocksModel" (247 : Nat) "RegretLocksModel" "laidAt" "I") ∈ zT := zTm 1083 (by decide +kernel) rfl
theorem tw_1084 : (Jvm.Cond.fieldLink "RegretLocksModel" (277 : Nat) "RegretLocksModel" "said" "I") ∈ zT := zTm 1084 (by decide +kernel) rfl
theorem tw_1085 : (Jvm.Cond.fieldLink "RegretLocksModel" (55 : Nat) "RegretLocksModel" "named" "[I") ∈ zT := zTm 1085 (by decide +kernel) rfl
theorem tw_1086 : (Jvm.Cond.fieldLink "RegretLocksModel" (58 : Nat) "RegretLocksModel" "pile" "[I") ∈ zT := zTm 1086 (by decide +kernel) rfl
theorem tw_1087 : (Jvm.Cond.fieldLink "RegretLocksModel" (61 : Nat) "RegretLocksModel" "carried" "[I") ∈ zT := zTm 1087 (by decide +kernel) rfl
theorem tw_1088 : (Jvm.Cond.fieldLink "RegretLocksModel" (64 : Nat) "RegretLocksModel" "waits" "[I") ∈ zT := zTm 1088 (by decide +kernel) rfl
theorem tw_1089 : (Jvm.Cond.fieldLink "RegretLocksModel" (328 : Nat) "RegretLocksModel" "waiting" "I") ∈ zT := zTm 1089 (by decide +kernel) rfl
theorem tw_1090 : (Jvm.Cond.fieldLink "RegretLocksModel" (67 : Nat) "RegretLocksModel" "rowDue" "[I") ∈ zT := zTm 1090 (by decide +kernel) rfl
theorem tw_1158 : (Jvm.Cond.methodLink "RegretLocksLaw" (17 : Nat) ({ cls := "RegretLocksModel", name := "one", desc := "(IIIII)I" } : Jvm.MethodName)) ∈ zT := zTm 1158 (by decide +kernel) rfl
theorem tw_1159 : (Jvm.Cond.instanceMethod ({ cls := "RegretLocksModel", name := "one", desc := "(IIIII)I" } : Jvm.MethodName)) ∈ zT := zTm 1159 (by decide +kernel) rfl
theorem tw_1160 : (Jvm.Cond.selects "RegretLocksModel" ({ cls := "RegretLocksModel", name := "one", desc := "(IIIII)I" } : Jvm.MethodName) ({ cls := "RegretLocksModel", name := "one", desc := "(IIIII)I" } : Jvm.MethodName)) ∈ zT := zTm 1160 (by decide +kernel) rfl
theorem tw_1161 : (Jvm.Cond.code ({ cls := "RegretLocksModel", name := "one", desc := "(IIIII)I" } : Jvm.MethodName) prog_12_method_19_code (6 : Nat) (Option.some Jvm.ClassFile.FieldType.int)) ∈ zT := zTm 1161 (by decide +kernel) rfl
theorem tw_1162 : (Jvm.Cond.constantLong "RegretLocksModel" (84 : Nat) (5 : Int64)) ∈ zT := zTm 1162 (by decide +kernel) rfl
theorem tw_1163 : (Jvm.Cond.methodLink "RegretLocksModel" (71 : Nat) ({ cls := "RegretLocksModel", name := "isIn", desc := "(JJJ)Z" } : Jvm.MethodName)) ∈ zT := zTm 1163 (by decide +kernel) rfl
theorem tw_1164 : (Jvm.Cond.static ({ cls := "RegretLocksModel", name := "isIn", desc := "(JJJ)Z" } : Jvm.MethodName)) ∈ zT := zTm 1164 (by decide +kernel) rfl
theorem tw_1165 : (Jvm.Cond.code ({ cls := "RegretLocksModel", name := "isIn", desc := "(JJJ)Z" } : Jvm.MethodName) prog_12_method_2_code (6 : Nat) (Option.some Jvm.ClassFile.FieldType.boolean)) ∈ zT := zTm 1165 (by decide +kernel) rfl
theorem tw_1166 : (Jvm.Cond.methodLink "RegretLocksModel" (86 : Nat) ({ cls := "RegretLocksModel", name := "isRoom", desc := "(I)Z" } : Jvm.MethodName)) ∈ zT := zTm 1166 (by decide +kernel) rfl
theorem tw_1167 : (Jvm.Cond.static ({ cls := "RegretLocksModel", name := "isRoom", desc := "(I)Z" } : Jvm.MethodName)) ∈ zT := zTm 1167 (by decide +kernel) rfl
theorem tw_1168 : (Jvm.Cond.code ({ cls := "RegretLocksModel", name := "isRoom", desc := "(I)Z" } : Jvm.MethodName) prog_12_method_16_code (1 : Nat) (Option.some Jvm.ClassFile.FieldType.boolean)) ∈ zT := zTm 1168 (by decide +kernel) rfl
theorem tw_1169 : (Jvm.Cond.constantLong "RegretLocksModel" (76 : Nat) (7 : Int64)) ∈ zT := zTm 1169 (by decide +kernel) rfl
theorem tw_1170 : (Jvm.Cond.methodLink "RegretLocksModel" (90 : Nat) ({ cls := "RegretLocksModel", name := "isMost", desc := "(I)Z" } : Jvm.MethodName)) ∈ zT := zTm 1170 (by decide +kernel) rfl
theorem tw_1171 : (Jvm.Cond.static ({ cls := "RegretLocksModel", name := "isMost", desc := "(I)Z" } : Jvm.MethodName)) ∈ zT := zTm 1171 (by decide +kernel) rfl
theorem tw_1172 : (Jvm.Cond.code ({ cls := "RegretLocksModel", name := "isMost", desc := "(I)Z" } : Jvm.MethodName) prog_12_method_17_code (1 : Nat) (Option.some Jvm.ClassFile.FieldType.boolean)) ∈ zT := zTm 1172 (by decide +kernel) rfl
theorem tw_1173 : (Jvm.Cond.constantLong "RegretLocksModel" (78 : Nat) (99 : Int64)) ∈ zT := zTm 1173 (by decide +kernel) rfl
theorem tw_1174 : (Jvm.Cond.constant "RegretLocksModel" (93 : Nat) (-1000000001 : Int32)) ∈ zT := zTm 1174 (by decide +kernel) rfl
theorem tw_1175 : (Jvm.Cond.constant "RegretLocksModel" (94 : Nat) (-1000000003 : Int32)) ∈ zT := zTm 1175 (by decide +kernel) rfl
theorem tw_1176 : (Jvm.Cond.methodLink "RegretLocksModel" (95 : Nat) ({ cls := "RegretLocksModel", name := "comes", desc := "(IIIII)V" } : Jvm.MethodName)) ∈ zT := zTm 1176 (by decide +kernel) rfl
theorem tw_1178 : (Jvm.Cond.instanceMethod ({ cls := "RegretLocksModel", name := "comes", desc := "(IIIII)V" } : Jvm.MethodName)) ∈ zT := zTm 1178 (by decide +kernel) rfl
theorem tw_1179 : (Jvm.Cond.code ({ cls := "RegretLocksModel", name := "comes", desc := "(IIIII)V" } : Jvm.MethodName) prog_12_method_18_code (7 : Nat) (Option.none : Option Jvm.ClassFile.FieldType)) ∈ zT := zTm 1179 (by decide +kernel) rfl
theorem tw_1180 : (Jvm.Cond.methodLink "RegretLocksModel" (80 : Nat) ({ cls := "RegretLocksModel", name := "gives", desc := "(III)V" } : Jvm.MethodName)) ∈ zT := zTm 1180 (by decide +kernel) rfl
theorem tw_1182 : (Jvm.Cond.instanceMethod ({ cls := "RegretLocksModel", name := "gives", desc := "(III)V" } : Jvm.MethodName)) ∈ zT := zTm 1182 (by decide +kernel) rfl
theorem tw_1183 : (Jvm.Cond.code ({ cls := "RegretLocksModel", name := "gives", desc := "(III)V" } : Jvm.MethodName) prog_12_method_9_code (4 : Nat) (Option.none : Option Jvm.ClassFile.FieldType)) ∈ zT := zTm 1183 (by decide +kernel) rfl
theorem tw_1184 : (Jvm.Cond.methodLink "RegretLocksLaw" (22 : Nat) ({ cls := "RegretLocksModel", name := "told", desc := "(II)I" } : Jvm.MethodName)) ∈ zT := zTm 1184 (by decide +kernel) rfl
theorem tw_1185 : (Jvm.Cond.instanceMethod ({ cls := "RegretLocksModel", name := "told", desc := "(II)I" } : Jvm.MethodName)) ∈ zT := zTm 1185 (by decide +kernel) rfl
theorem tw_1186 : (Jvm.Cond.selects "RegretLocksModel" ({ cls := "RegretLocksModel", name := "told", desc := "(II)I" } : Jvm.MethodName) ({ cls := "RegretLocksModel", name := "told", desc := "(II)I" } : Jvm.MethodName)) ∈ zT := zTm 1186 (by decide +kernel) rfl
theorem tw_1187 : (Jvm.Cond.code ({ cls := "RegretLocksModel", name := "told", desc := "(II)I" } : Jvm.MethodName) prog_12_method_25_code (3 : Nat) (Option.some Jvm.ClassFile.FieldType.int)) ∈ zT := zTm 1187 (by decide +kernel) rfl
theorem tw_1188 : (Jvm.Cond.methodLink "RegretLocksModel" (120 : Nat) ({ cls := "RegretLocksModel", name := "isOne", desc := "(I)Z" } : Jvm.MethodName)) ∈ zT := zTm 1188 (by decide +kernel) rfl
theorem tw_1190 : (Jvm.Cond.instanceMethod ({ cls := "RegretLocksModel", name := "isOne", desc := "(I)Z" } : Jvm.MethodName)) ∈ zT := zTm 1190 (by decide +kernel) rfl
theorem tw_1191 : (Jvm.Cond.code ({ cls := "RegretLocksModel", name := "isOne", desc := "(I)Z" } : Jvm.MethodName) prog_12_method_10_code (2 : Nat) (Option.some Jvm.ClassFile.FieldType.boolean)) ∈ zT := zTm 1191 (by decide +kernel) rfl
theorem tw_1192 : (Jvm.Cond.constantLong "RegretLocksModel" (123 : Nat) (8 : Int64)) ∈ zT := zTm 1192 (by decide +kernel) rfl
theorem tw_1193 : (Jvm.Cond.methodLink "RegretLocksModel" (114 : Nat) ({ cls := "RegretLocksModel", name := "of", desc := "(II)I" } : Jvm.MethodName)) ∈ zT := zTm 1193 (by decide +kernel) rfl
theorem tw_1195 : (Jvm.Cond.instanceMethod ({ cls := "RegretLocksModel", name := "of", desc := "(II)I" } : Jvm.MethodName)) ∈ zT := zTm 1195 (by decide +kernel) rfl
theorem tw_1196 : (Jvm.Cond.code ({ cls := "RegretLocksModel", name := "of", desc := "(II)I" } : Jvm.MethodName) prog_12_method_8_code (3 : Nat) (Option.some Jvm.ClassFile.FieldType.int)) ∈ zT := zTm 1196 (by decide +kernel) rfl
theorem tw_1197 : (Jvm.Cond.methodLink "RegretLocksModel" (125 : Nat) ({ cls := "RegretLocksModel", name := "worth", desc := "(I)I" } : Jvm.MethodName)) ∈ zT := zTm 1197 (by decide +kernel) rfl
theorem tw_1199 : (Jvm.Cond.instanceMethod ({ cls := "RegretLocksModel", name := "worth", desc := "(I)I" } : Jvm.MethodName)) ∈ zT := zTm 1199 (by decide +kernel) rfl
theorem tw_1200 : (Jvm.Cond.code ({ cls := "RegretLocksModel", name := "worth", desc := "(I)I" } : Jvm.MethodName) prog_12_method_24_code (3 : Nat) (Option.some Jvm.ClassFile.FieldType.int)) ∈ zT := zTm 1200 (by decide +kernel) rfl
theorem tw_1201 : (Jvm.Cond.methodLink "RegretLocksModel" (117 : Nat) ({ cls := "RegretLocksModel", name := "regrets", desc := "(I)I" } : Jvm.MethodName)) ∈ zT := zTm 1201 (by decide +kernel) rfl
theorem tw_1203 : (Jvm.Cond.instanceMethod ({ cls := "RegretLocksModel", name := "regrets", desc := "(I)I" } : Jvm.MethodName)) ∈ zT := zTm 1203 (by decide +kernel) rfl
theorem tw_1204 : (Jvm.Cond.code ({ cls := "RegretLocksModel", name := "regrets", desc := "(I)I" } : Jvm.MethodName) prog_12_method_23_code (2 : Nat) (Option.some Jvm.ClassFile.FieldType.int)) ∈ zT := zTm 1204 (by decide +kernel) rfl
theorem tw_1205 : (Jvm.Cond.methodLink "RegretLocksModel" (128 : Nat) ({ cls := "RegretLocksModel", name := "feels", desc := "(II)I" } : Jvm.MethodName)) ∈ zT := zTm 1205 (by decide +kernel) rfl
theorem tw_1206 : (Jvm.Cond.static ({ cls := "RegretLocksModel", name := "feels", desc := "(II)I" } : Jvm.MethodName)) ∈ zT := zTm 1206 (by decide +kernel) rfl
theorem tw_1207 : (Jvm.Cond.code ({ cls := "RegretLocksModel", name := "feels", desc := "(II)I" } : Jvm.MethodName) prog_12_method_20_code (2 : Nat) (Option.some Jvm.ClassFile.FieldType.int)) ∈ zT := zTm 1207 (by decide +kernel) rfl
theorem tw_1208 : (Jvm.Cond.methodLink "RegretLocksLaw" (26 : Nat) ({ cls := "RegretLocksModel", name := "as", desc := "(II)I" } : Jvm.MethodName)) ∈ zT := zTm 1208 (by decide +kernel) rfl
theorem tw_1209 : (Jvm.Cond.instanceMethod ({ cls := "RegretLocksModel", name := "as", desc := "(II)I" } : Jvm.MethodName)) ∈ zT := zTm 1209 (by decide +kernel) rfl
theorem tw_1210 : (Jvm.Cond.selects "RegretLocksModel" ({ cls := "RegretLocksModel", name := "as", desc := "(II)I" } : Jvm.MethodName) ({ cls := "RegretLocksModel", name := "as", desc := "(II)I" } : Jvm.MethodName)) ∈ zT := zTm 1210 (by decide +kernel) rfl
theorem tw_1211 : (Jvm.Cond.code ({ cls := "RegretLocksModel", name := "as", desc := "(II)I" } : Jvm.MethodName) prog_12_method_26_code (3 : Nat) (Option.some Jvm.ClassFile.FieldType.int)) ∈ zT := zTm 1211 (by decide +kernel) rfl
theorem tw_1212 : (Jvm.Cond.methodLink "RegretLocksModel" (131 : Nat) ({ cls := "RegretLocksModel", name := "isOf", desc := "(II)Z" } : Jvm.MethodName)) ∈ zT := zTm 1212 (by decide +kernel) rfl
theorem tw_1213 : (Jvm.Cond.static ({ cls := "RegretLocksModel", name := "isOf", desc := "(II)Z" } : Jvm.MethodName)) ∈ zT := zTm 1213 (by decide +kernel) rfl
theorem tw_1214 : (Jvm.Cond.code ({ cls := "RegretLocksModel", name := "isOf", desc := "(II)Z" } : Jvm.MethodName) prog_12_method_13_code (2 : Nat) (Option.some Jvm.ClassFile.FieldType.boolean)) ∈ zT := zTm 1214 (by decide +kernel) rfl
theorem tw_1215 : (Jvm.Cond.constant "RegretLocksModel" (135 : Nat) (-1000000012 : Int32)) ∈ zT := zTm 1215 (by decide +kernel) rfl
theorem tw_1216 : (Jvm.Cond.methodLink "RegretLocksLaw" (30 : Nat) ({ cls := "RegretLocksModel", name := "turns", desc := "(II)I" } : Jvm.MethodName)) ∈ zT := zTm 1216 (by decide +kernel) rfl
theorem tw_1217 : (Jvm.Cond.instanceMethod ({ cls := "RegretLocksModel", name := "turns", desc := "(II)I" } : Jvm.MethodName)) ∈ zT := zTm 1217 (by decide +kernel) rfl
theorem tw_1218 : (Jvm.Cond.selects "RegretLocksModel" ({ cls := "RegretLocksModel", name := "turns", desc := "(II)I" } : Jvm.MethodName) ({ cls := "RegretLocksModel", name := "turns", desc := "(II)I" } : Jvm.MethodName)) ∈ zT := zTm 1218 (by decide +kernel) rfl
theorem tw_1219 : (Jvm.Cond.code ({ cls := "RegretLocksModel", name := "turns", desc := "(II)I" } : Jvm.MethodName) prog_12_method_27_code (3 : Nat) (Option.some Jvm.ClassFile.FieldType.int)) ∈ zT := zTm 1219 (by decide +kernel) rfl
theorem tw_1220 : (Jvm.Cond.methodLink "RegretLocksModel" (136 : Nat) ({ cls := "RegretLocksModel", name := "changes", desc := "(II)I" } : Jvm.MethodName)) ∈ zT := zTm 1220 (by decide +kernel) rfl
theorem tw_1222 : (Jvm.Cond.instanceMethod ({ cls := "RegretLocksModel", name := "changes", desc := "(II)I" } : Jvm.MethodName)) ∈ zT := zTm 1222 (by decide +kernel) rfl
theorem tw_1223 : (Jvm.Cond.code ({ cls := "RegretLocksModel", name := "changes", desc := "(II)I" } : Jvm.MethodName) prog_12_method_6_code (4 : Nat) (Option.some Jvm.ClassFile.FieldType.int)) ∈ zT := zTm 1223 (by decide +kernel) rfl
theorem tw_1224 : (Jvm.Cond.methodLink "RegretLocksLaw" (35 : Nat) ({ cls := "RegretLocksModel", name := "set", desc := "(III)I" } : Jvm.MethodName)) ∈ zT := zTm 1224 (by decide +kernel) rfl
theorem tw_1225 : (Jvm.Cond.instanceMethod ({ cls := "RegretLocksModel", name := "set", desc := "(III)I" } : Jvm.MethodName)) ∈ zT := zTm 1225 (by decide +kernel) rfl
theorem tw_1226 : (Jvm.Cond.selects "RegretLocksModel" ({ cls := "RegretLocksModel", name := "set", desc := "(III)I" } : Jvm.MethodName) ({ cls := "RegretLocksModel", name := "set", desc := "(III)I" } : Jvm.MethodName)) ∈ zT := zTm 1226 (by decide +kernel) rfl
theorem tw_1227 : (Jvm.Cond.code ({ cls := "RegretLocksModel", name := "set", desc := "(III)I" } : Jvm.MethodName) prog_12_method_28_code (4 : Nat) (Option.some Jvm.ClassFile.FieldType.int)) ∈ zT := zTm 1227 (by decide +kernel) rfl
theorem tw_1228 : (Jvm.Cond.constantLong "RegretLocksModel" (139 : Nat) (4 : Int64)) ∈ zT := zTm 1228 (by decide +kernel) rfl
theorem tw_1229 : (Jvm.Cond.methodLink "RegretLocksLaw" (40 : Nat) ({ cls := "RegretLocksModel", name := "lock", desc := "(IIII)I" } : Jvm.MethodName)) ∈ zT := zTm 1229 (by decide +kernel) rfl
theorem tw_1230 : (Jvm.Cond.instanceMethod ({ cls := "RegretLocksModel", name := "lock", desc := "(IIII)I" } : Jvm.MethodName)) ∈ zT := zTm 1230 (by decide +kernel) rfl
theorem tw_1231 : (Jvm.Cond.selects "RegretLocksModel" ({ cls := "RegretLocksModel", name := "lock", desc := "(IIII)I" } : Jvm.MethodName) ({ cls := "RegretLocksModel", name := "lock", desc := "(IIII)I" } : Jvm.MethodName)) ∈ zT := zTm 1231 (by decide +kernel) rfl
theorem tw_1232 : (Jvm.Cond.code ({ cls := "RegretLocksModel", name := "lock", desc := "(IIII)I" } : Jvm.MethodName) prog_12_method_30_code (6 : Nat) (Option.some Jvm.ClassFile.FieldType.int)) ∈ zT := zTm 1232 (by decide +kernel) rfl
theorem tw_1233 : (Jvm.Cond.methodLink "RegretLocksModel" (143 : Nat) ({ cls := "RegretLocksModel", name := "isLockSo", desc := "(IIII)Z" } : Jvm.MethodName)) ∈ zT := zTm 1233 (by decide +kernel) rfl
theorem tw_1234 : (Jvm.Cond.static ({ cls := "RegretLocksModel", name := "isLockSo", desc := "(IIII)Z" } : Jvm.MethodName)) ∈ zT := zTm 1234 (by decide +kernel) rfl
theorem tw_1235 : (Jvm.Cond.code ({ cls := "RegretLocksModel", name := "isLockSo", desc := "(IIII)Z" } : Jvm.MethodName) prog_12_method_29_code (4 : Nat) (Option.some Jvm.ClassFile.FieldType.boolean)) ∈ zT := zTm 1235 (by decide +kernel) rfl
theorem tw_1236 : (Jvm.Cond.constantLong "RegretLocksModel" (141 : Nat) (2 : Int64)) ∈ zT := zTm 1236 (by decide +kernel) rfl
theorem tw_1237 : (Jvm.Cond.methodLink "RegretLocksLaw" (44 : Nat) ({ cls := "RegretLocksModel", name := "about", desc := "(II)I" } : Jvm.MethodName)) ∈ zT := zTm 1237 (by decide +kernel) rfl
theorem tw_1238 : (Jvm.Cond.instanceMethod ({ cls := "RegretLocksModel", name := "about", desc := "(II)I" } : Jvm.MethodName)) ∈ zT := zTm 1238 (by decide +kernel) rfl
theorem tw_1239 : (Jvm.Cond.selects "RegretLocksModel" ({ cls := "RegretLocksModel", name := "about", desc := "(II)I" } : Jvm.MethodName) ({ cls := "RegretLocksModel", name := "about", desc := "(II)I" } : Jvm.MethodName)) ∈ zT := zTm 1239 (by decide +kernel) rfl
theorem tw_1240 : (Jvm.Cond.code ({ cls := "RegretLocksModel", name := "about", desc := "(II)I" } : Jvm.MethodName) prog_12_method_32_code (5 : Nat) (Option.some Jvm.ClassFile.FieldType.int)) ∈ zT := zTm 1240 (by decide +kernel) rfl
theorem tw_1241 : (Jvm.Cond.methodLink "RegretLocksModel" (150 : Nat) ({ cls := "RegretLocksModel", name := "isLock", desc := "(I)Z" } : Jvm.MethodName)) ∈ zT := zTm 1241 (by decide +kernel) rfl
theorem tw_1243 : (Jvm.Cond.instanceMethod ({ cls := "RegretLocksModel", name := "isLock", desc := "(I)Z" } : Jvm.MethodName)) ∈ zT := zTm 1243 (by decide +kernel) rfl
theorem tw_1244 : (Jvm.Cond.code ({ cls := "RegretLocksModel", name := "isLock", desc := "(I)Z" } : Jvm.MethodName) prog_12_method_15_code (2 : Nat) (Option.some Jvm.ClassFile.FieldType.boolean)) ∈ zT := zTm 1244 (by decide +kernel) rfl
theorem tw_1245 : (Jvm.Cond.methodLink "RegretLocksModel" (147 : Nat) ({ cls := "RegretLocksModel", name := "lockOf", desc := "(II)I" } : Jvm.MethodName)) ∈ zT := zTm 1245 (by decide +kernel) rfl
theorem tw_1247 : (Jvm.Cond.instanceMethod ({ cls := "RegretLocksModel", name := "lockOf", desc := "(II)I" } : Jvm.MethodName)) ∈ zT := zTm 1247 (by decide +kernel) rfl
theorem tw_1248 : (Jvm.Cond.code ({ cls := "RegretLocksModel", name := "lockOf", desc := "(II)I" } : Jvm.MethodName) prog_12_method_14_code (3 : Nat) (Option.some Jvm.ClassFile.FieldType.int)) ∈ zT := zTm 1248 (by decide +kernel) rfl
theorem tw_1249 : (Jvm.Cond.methodLink "RegretLocksModel" (153 : Nat) ({ cls := "RegretLocksModel", name := "isOpen", desc := "(II)Z" } : Jvm.MethodName)) ∈ zT := zTm 1249 (by decide +kernel) rfl
theorem tw_1251 : (Jvm.Cond.instanceMethod ({ cls := "RegretLocksModel", name := "isOpen", desc := "(II)Z" } : Jvm.MethodName)) ∈ zT := zTm 1251 (by decide +kernel) rfl
theorem tw_1252 : (Jvm.Cond.code ({ cls := "RegretLocksModel", name := "isOpen", desc := "(II)Z" } : Jvm.MethodName) prog_12_method_31_code (3 : Nat) (Option.some Jvm.ClassFile.FieldType.boolean)) ∈ zT := zTm 1252 (by decide +kernel) rfl
theorem tw_1253 : (Jvm.Cond.methodLink "RegretLocksLaw" (48 : Nat) ({ cls := "RegretLocksModel", name := "sets", desc := "(III)I" } : Jvm.MethodName)) ∈ zT := zTm 1253 (by decide +kernel) rfl
theorem tw_1254 : (Jvm.Cond.instanceMethod ({ cls := "RegretLocksModel", name := "sets", desc := "(III)I" } : Jvm.MethodName)) ∈ zT := zTm 1254 (by decide +kernel) rfl
theorem tw_1255 : (Jvm.Cond.selects "RegretLocksModel" ({ cls := "RegretLocksModel", name := "sets", desc := "(III)I" } : Jvm.MethodName) ({ cls := "RegretLocksModel", name := "sets", desc := "(III)I" } : Jvm.MethodName)) ∈ zT := zTm 1255 (by decide +kernel) rfl
theorem tw_1256 : (Jvm.Cond.code ({ cls := "RegretLocksModel", name := "sets", desc := "(III)I" } : Jvm.MethodName) prog_12_method_33_code (4 : Nat) (Option.some Jvm.ClassFile.FieldType.int)) ∈ zT := zTm 1256 (by decide +kernel) rfl
theorem tw_1257 : (Jvm.Cond.constantLong "RegretLocksModel" (156 : Nat) (3 : Int64)) ∈ zT := zTm 1257 (by decide +kernel) rfl
theorem tw_1258 : (Jvm.Cond.methodLink "RegretLocksLaw" (53 : Nat) ({ cls := "RegretLocksModel", name := "mends", desc := "(I)I" } : Jvm.MethodName)) ∈ zT := zTm 1258 (by decide +kernel) rfl
theorem tw_1259 : (Jvm.Cond.instanceMethod ({ cls := "RegretLocksModel", name := "mends", desc := "(I)I" } : Jvm.MethodName)) ∈ zT := zTm 1259 (by decide +kernel) rfl
theorem tw_1260 : (Jvm.Cond.selects "RegretLocksModel" ({ cls := "RegretLocksModel", name := "mends", desc := "(I)I" } : Jvm.MethodName) ({ cls := "RegretLocksModel", name := "mends", desc := "(I)I" } : Jvm.MethodName)) ∈ zT := zTm 1260 (by decide +kernel) rfl
theorem tw_1261 : (Jvm.Cond.code ({ cls := "RegretLocksModel", name := "mends", desc := "(I)I" } : Jvm.MethodName) prog_12_method_34_code (2 : Nat) (Option.some Jvm.ClassFile.FieldType.int)) ∈ zT := zTm 1261 (by decide +kernel) rfl
theorem tw_1262 : (Jvm.Cond.constant "RegretLocksModel" (158 : Nat) (-1000000002 : Int32)) ∈ zT := zTm 1262 (by decide +kernel) rfl
theorem tw_1263 : (Jvm.Cond.methodLink "RegretLocksLaw" (57 : Nat) ({ cls := "RegretLocksModel", name := "rule", desc := "(II)I" } : Jvm.MethodName)) ∈ zT := zTm 1263 (by decide +kernel) rfl
theorem tw_1264 : (Jvm.Cond.instanceMethod ({ cls := "RegretLocksModel", name := "rule", desc := "(II)I" } : Jvm.MethodName)) ∈ zT := zTm 1264 (by decide +kernel) rfl
theorem tw_1265 : (Jvm.Cond.selects "RegretLocksModel" ({ cls := "RegretLocksModel", name := "rule", desc := "(II)I" } : Jvm.MethodName) ({ cls := "RegretLocksModel", name := "rule", desc := "(II)I" } : Jvm.MethodName)) ∈ zT := zTm 1265 (by decide +kernel) rfl
theorem tw_1266 : (Jvm.Cond.code ({ cls := "RegretLocksModel", name := "rule", desc := "(II)I" } : Jvm.MethodName) prog_12_method_35_code (3 : Nat) (Option.some Jvm.ClassFile.FieldType.int)) ∈ zT := zTm 1266 (by decide +kernel) rfl
theorem tw_1267 : (Jvm.Cond.constantLong "RegretLocksModel" (159 : Nat) (100 : Int64)) ∈ zT := zTm 1267 (by decide +kernel) rfl
theorem tw_1268 : (Jvm.Cond.methodLink "RegretLocksLaw" (61 : Nat) ({ cls := "RegretLocksModel", name := "at", desc := "(I)I" } : Jvm.MethodName)) ∈ zT := zTm 1268 (by decide +kernel) rfl
theorem tw_1269 : (Jvm.Cond.instanceMethod ({ cls := "RegretLocksModel", name := "at", desc := "(I)I" } : Jvm.MethodName)) ∈ zT := zTm 1269 (by decide +kernel) rfl
theorem tw_1270 : (Jvm.Cond.selects "RegretLocksModel" ({ cls := "RegretLocksModel", name := "at", desc := "(I)I" } : Jvm.MethodName) ({ cls := "RegretLocksModel", name := "at", desc := "(I)I" } : Jvm.MethodName)) ∈ zT := zTm 1270 (by decide +kernel) rfl
theorem tw_1271 : (Jvm.Cond.code ({ cls := "RegretLocksModel", name := "at", desc := "(I)I" } : Jvm.MethodName) prog_12_method_36_code (4 : Nat) (Option.some Jvm.ClassFile.FieldType.int)) ∈ zT := zTm 1271 (by decide +kernel) rfl
theorem tw_1272 : (Jvm.Cond.methodLink "RegretLocksLaw" (65 : Nat) ({ cls := "RegretLocksModel", name := "deal", desc := "(I)I" } : Jvm.MethodName)) ∈ zT := zTm 1272 (by decide +kernel) rfl
theorem tw_1273 : (Jvm.Cond.instanceMethod ({ cls := "RegretLocksModel", name := "deal", desc := "(I)I" } : Jvm.MethodName)) ∈ zT := zTm 1273 (by decide +kernel) rfl
theorem tw_1274 : (Jvm.Cond.selects "RegretLocksModel" ({ cls := "RegretLocksModel", name := "deal", desc := "(I)I" } : Jvm.MethodName) ({ cls := "RegretLocksModel", name := "deal", desc := "(I)I" } : Jvm.MethodName)) ∈ zT := zTm 1274 (by decide +kernel) rfl
theorem tw_1275 : (Jvm.Cond.code ({ cls := "RegretLocksModel", name := "deal", desc := "(I)I" } : Jvm.MethodName) prog_12_method_37_code (7 : Nat) (Option.some Jvm.ClassFile.FieldType.int)) ∈ zT := zTm 1275 (by decide +kernel) rfl
theorem tw_1276 : (Jvm.Cond.methodLink "RegretLocksModel" (161 : Nat) ({ cls := "RegretLocksModel", name := "drawn", desc := "()I" } : Jvm.MethodName)) ∈ zT := zTm 1276 (by decide +kernel) rfl
theorem tw_1278 : (Jvm.Cond.instanceMethod ({ cls := "RegretLocksModel", name := "drawn", desc := "()I" } : Jvm.MethodName)) ∈ zT := zTm 1278 (by decide +kernel) rfl
theorem tw_1279 : (Jvm.Cond.code ({ cls := "RegretLocksModel", name := "drawn", desc := "()I" } : Jvm.MethodName) prog_12_method_12_code (1 : Nat) (Option.some Jvm.ClassFile.FieldType.int)) ∈ zT := zTm 1279 (by decide +kernel) rfl
theorem tw_1280 : (Jvm.Cond.constant "RegretLocksModel" (75 : Nat) (1103515245 : Int32)) ∈ zT := zTm 1280 (by decide +kernel) rfl
theorem tw_1281 : (Jvm.Cond.methodLink "RegretLocksLaw" (69 : Nat) ({ cls := "RegretLocksModel", name := "seed", desc := "(I)I" } : Jvm.MethodName)) ∈ zT := zTm 1281 (by decide +kernel) rfl
theorem tw_1282 : (Jvm.Cond.instanceMethod ({ cls := "RegretLocksModel", name := "seed", desc := "(I)I" } : Jvm.MethodName)) ∈ zT := zTm 1282 (by decide +kernel) rfl
theorem tw_1283 : (Jvm.Cond.selects "RegretLocksModel" ({ cls := "RegretLocksModel", name := "seed", desc := "(I)I" } : Jvm.MethodName) ({ cls := "RegretLocksModel", name := "seed", desc := "(I)I" } : Jvm.MethodName)) ∈ zT := zTm 1283 (by decide +kernel) rfl
theorem tw_1284 : (Jvm.Cond.code ({ cls := "RegretLocksModel", name := "seed", desc := "(I)I" } : Jvm.MethodName) prog_12_method_38_code (2 : Nat) (Option.some Jvm.ClassFile.FieldType.int)) ∈ zT := zTm 1284 (by decide +kernel) rfl
theorem tw_1285 : (Jvm.Cond.methodLink "RegretLocksLaw" (73 : Nat) ({ cls := "RegretLocksModel", name := "passes", desc := "(II)I" } : Jvm.MethodName)) ∈ zT := zTm 1285 (by decide +kernel) rfl
theorem tw_1286 : (Jvm.Cond.instanceMethod ({ cls := "RegretLocksModel", name := "passes", desc := "(II)I" } : Jvm.MethodName)) ∈ zT := zTm 1286 (by decide +kernel) rfl
theorem tw_1287 : (Jvm.Cond.selects "RegretLocksModel" ({ cls := "RegretLocksModel", name := "passes", desc := "(II)I" } : Jvm.MethodName) ({ cls := "RegretLocksModel", name := "passes", desc := "(II)I" } : Jvm.MethodName)) ∈ zT := zTm 1287 (by decide +kernel) rfl
theorem tw_1288 : (Jvm.Cond.code ({ cls := "RegretLocksModel", name := "passes", desc := "(II)I" } : Jvm.MethodName) prog_12_method_40_code (3 : Nat) (Option.some Jvm.ClassFile.FieldType.int)) ∈ zT := zTm 1288 (by decide +kernel) rfl
theorem tw_1289 : (Jvm.Cond.methodLink "RegretLocksModel" (168 : Nat) ({ cls := "RegretLocksModel", name := "goesThrough", desc := "(II)V" } : Jvm.MethodName)) ∈ zT := zTm 1289 (by decide +kernel) rfl
theorem tw_1291 : (Jvm.Cond.instanceMethod ({ cls := "RegretLocksModel", name := "goesThrough", desc := "(II)V" } : Jvm.MethodName)) ∈ zT := zTm 1291 (by decide +kernel) rfl
theorem tw_1292 : (Jvm.Cond.code ({ cls := "RegretLocksModel", name := "goesThrough", desc := "(II)V" } : Jvm.MethodName) prog_12_method_39_code (4 : Nat) (Option.none : Option Jvm.ClassFile.FieldType)) ∈ zT := zTm 1292 (by decide +kernel) rfl
theorem tw_1293 : (Jvm.Cond.methodLink "RegretLocksModel" (165 : Nat) ({ cls := "RegretLocksModel", name := "worn", desc := "(III)I" } : Jvm.MethodName)) ∈ zT := zTm 1293 (by decide +kernel) rfl
theorem tw_1295 : (Jvm.Cond.instanceMethod ({ cls := "RegretLocksModel", name := "worn", desc := "(III)I" } : Jvm.MethodName)) ∈ zT := zTm 1295 (by decide +kernel) rfl
theorem tw_1296 : (Jvm.Cond.code ({ cls := "RegretLocksModel", name := "worn", desc := "(III)I" } : Jvm.MethodName) prog_12_method_22_code (5 : Nat) (Option.some Jvm.ClassFile.FieldType.int)) ∈ zT := zTm 1296 (by decide +kernel) rfl
theorem tw_1297 : (Jvm.Cond.methodLink "RegretLocksModel" (110 : Nat) ({ cls := "RegretLocksModel", name := "wears", desc := "(III)I" } : Jvm.MethodName)) ∈ zT := zTm 1297 (by decide +kernel) rfl
theorem tw_1299 : (Jvm.Cond.instanceMethod ({ cls := "RegretLocksModel", name := "wears", desc := "(III)I" } : Jvm.MethodName)) ∈ zT := zTm 1299 (by decide +kernel) rfl
theorem tw_1300 : (Jvm.Cond.code ({ cls := "RegretLocksModel", name := "wears", desc := "(III)I" } : Jvm.MethodName) prog_12_method_21_code (6 : Nat) (Option.some Jvm.ClassFile.FieldType.int)) ∈ zT := zTm 1300 (by decide +kernel) rfl
theorem tw_1301 : (Jvm.Cond.methodLink "RegretLocksModel" (99 : Nat) ({ cls := "RegretLocksModel", name := "counts", desc := "(I)I" } : Jvm.MethodName)) ∈ zT := zTm 1301 (by decide +kernel) rfl
theorem tw_1303 : (Jvm.Cond.instanceMethod ({ cls := "RegretLocksModel", name := "counts", desc := "(I)I" } : Jvm.MethodName)) ∈ zT := zTm 1303 (by decide +kernel) rfl
theorem tw_1304 : (Jvm.Cond.code ({ cls := "RegretLocksModel", name := "counts", desc := "(I)I" } : Jvm.MethodName) prog_12_method_85_code (4 : Nat) (Option.some Jvm.ClassFile.FieldType.int)) ∈ zT := zTm 1304 (by decide +kernel) rfl
theorem tw_1305 : (Jvm.Cond.methodLink "RegretLocksModel" (292 : Nat) ({ cls := "RegretLocksModel", name := "textAt", desc := "(I)I" } : Jvm.MethodName)) ∈ zT := zTm 1305 (by decide +kernel) rfl
theorem tw_1307 : (Jvm.Cond.instanceMethod ({ cls := "RegretLocksModel", name := "textAt", desc := "(I)I" } : Jvm.MethodName)) ∈ zT := zTm 1307 (by decide +kernel) rfl
theorem tw_1308 : (Jvm.Cond.code ({ cls := "RegretLocksModel", name := "textAt", desc := "(I)I" } : Jvm.MethodName) prog_12_method_7_code (2 : Nat) (Option.some Jvm.ClassFile.FieldType.int)) ∈ zT := zTm 1308 (by decide +kernel) rfl
theorem tw_1309 : (Jvm.Cond.methodLink "RegretLocksModel" (103 : Nat) ({ cls := "RegretLocksModel", name := "worked", desc := "(I)I" } : Jvm.MethodName)) ∈ zT := zTm 1309 (by decide +kernel) rfl
theorem tw_1311 : (Jvm.Cond.instanceMethod ({ cls := "RegretLocksModel", name := "worked", desc := "(I)I" } : Jvm.MethodName)) ∈ zT := zTm 1311 (by decide +kernel) rfl
theorem tw_1312 : (Jvm.Cond.code ({ cls := "RegretLocksModel", name := "worked", desc := "(I)I" } : Jvm.MethodName) prog_12_method_88_code (6 : Nat) (Option.some Jvm.ClassFile.FieldType.int)) ∈ zT := zTm 1312 (by decide +kernel) rfl
theorem tw_1313 : (Jvm.Cond.methodLink "RegretLocksModel" (307 : Nat) ({ cls := "RegretLocksModel", name := "joined", desc := "(III)I" } : Jvm.MethodName)) ∈ zT := zTm 1313 (by decide +kernel) rfl
theorem tw_1314 : (Jvm.Cond.static ({ cls := "RegretLocksModel", name := "joined", desc := "(III)I" } : Jvm.MethodName)) ∈ zT := zTm 1314 (by decide +kernel) rfl
theorem tw_1315 : (Jvm.Cond.code ({ cls := "RegretLocksModel", name := "joined", desc := "(III)I" } : Jvm.MethodName) prog_12_method_87_code (3 : Nat) (Option.some Jvm.ClassFile.FieldType.int)) ∈ zT := zTm 1315 (by decide +kernel) rfl
theorem tw_1316 : (Jvm.Cond.methodLink "RegretLocksModel" (106 : Nat) ({ cls := "RegretLocksModel", name := "within", desc := "(II)I" } : Jvm.MethodName)) ∈ zT := zTm 1316 (by decide +kernel) rfl
theorem tw_1317 : (Jvm.Cond.static ({ cls := "RegretLocksModel", name := "within", desc := "(II)I" } : Jvm.MethodName)) ∈ zT := zTm 1317 (by decide +kernel) rfl
theorem tw_1318 : (Jvm.Cond.code ({ cls := "RegretLocksModel", name := "within", desc := "(II)I" } : Jvm.MethodName) prog_12_method_4_code (2 : Nat) (Option.some Jvm.ClassFile.FieldType.int)) ∈ zT := zTm 1318 (by decide +kernel) rfl
theorem tw_1319 : (Jvm.Cond.methodLink "RegretLocksLaw" (77 : Nat) ({ cls := "RegretLocksModel", name := "days", desc := "(I)I" } : Jvm.MethodName)) ∈ zT := zTm 1319 (by decide +kernel) rfl
theorem tw_1320 : (Jvm.Cond.instanceMethod ({ cls := "RegretLocksModel", name := "days", desc := "(I)I" } : Jvm.MethodName)) ∈ zT := zTm 1320 (by decide +kernel) rfl
theorem tw_1321 : (Jvm.Cond.selects "RegretLocksModel" ({ cls := "RegretLocksModel", name := "days", desc := "(I)I" } : Jvm.MethodName) ({ cls := "RegretLocksModel", name := "days", desc := "(I)I" } : Jvm.MethodName)) ∈ zT := zTm 1321 (by decide +kernel) rfl
theorem tw_1322 : (Jvm.Cond.code ({ cls := "RegretLocksModel", name := "days", desc := "(I)I" } : Jvm.MethodName) prog_12_method_46_code (4 : Nat) (Option.some Jvm.ClassFile.FieldType.int)) ∈ zT := zTm 1322 (by decide +kernel) rfl
theorem tw_1323 : (Jvm.Cond.methodLink "RegretLocksModel" (185 : Nat) ({ cls := "RegretLocksModel", name := "goesOnMany", desc := "(I)V" } : Jvm.MethodName)) ∈ zT := zTm 1323 (by decide +kernel) rfl
theorem tw_1325 : (Jvm.Cond.instanceMethod ({ cls := "RegretLocksModel", name := "goesOnMany", desc := "(I)V" } : Jvm.MethodName)) ∈ zT := zTm 1325 (by decide +kernel) rfl
theorem tw_1326 : (Jvm.Cond.code ({ cls := "RegretLocksModel", name := "goesOnMany", desc := "(I)V" } : Jvm.MethodName) prog_12_method_45_code (3 : Nat) (Option.none : Option Jvm.ClassFile.FieldType)) ∈ zT := zTm 1326 (by decide +kernel) rfl
theorem tw_1327 : (Jvm.Cond.methodLink "RegretLocksModel" (182 : Nat) ({ cls := "RegretLocksModel", name := "goesOn", desc := "()V" } : Jvm.MethodName)) ∈ zT := zTm 1327 (by decide +kernel) rfl
theorem tw_1329 : (Jvm.Cond.instanceMethod ({ cls := "RegretLocksModel", name := "goesOn", desc := "()V" } : Jvm.MethodName)) ∈ zT := zTm 1329 (by decide +kernel) rfl
theorem tw_1330 : (Jvm.Cond.code ({ cls := "RegretLocksModel", name := "goesOn", desc := "()V" } : Jvm.MethodName) prog_12_method_44_code (3 : Nat) (Option.none : Option Jvm.ClassFile.FieldType)) ∈ zT := zTm 1330 (by decide +kernel) rfl
theorem tw_1331 : (Jvm.Cond.methodLink "RegretLocksModel" (172 : Nat) ({ cls := "RegretLocksModel", name := "tries", desc := "(I)V" } : Jvm.MethodName)) ∈ zT := zTm 1331 (by decide +kernel) rfl
theorem tw_1333 : (Jvm.Cond.instanceMethod ({ cls := "RegretLocksModel", name := "tries", desc := "(I)V" } : Jvm.MethodName)) ∈ zT := zTm 1333 (by decide +kernel) rfl
theorem tw_1334 : (Jvm.Cond.code ({ cls := "RegretLocksModel", name := "tries", desc := "(I)V" } : Jvm.MethodName) prog_12_method_41_code (3 : Nat) (Option.none : Option Jvm.ClassFile.FieldType)) ∈ zT := zTm 1334 (by decide +kernel) rfl
theorem tw_1335 : (Jvm.Cond.methodLink "RegretLocksModel" (176 : Nat) ({ cls := "RegretLocksModel", name := "more", desc := "(III)V" } : Jvm.MethodName)) ∈ zT := zTm 1335 (by decide +kernel) rfl
theorem tw_1337 : (Jvm.Cond.instanceMethod ({ cls := "RegretLocksModel", name := "more", desc := "(III)V" } : Jvm.MethodName)) ∈ zT := zTm 1337 (by decide +kernel) rfl
theorem tw_1338 : (Jvm.Cond.code ({ cls := "RegretLocksModel", name := "more", desc := "(III)V" } : Jvm.MethodName) prog_12_method_42_code (4 : Nat) (Option.none : Option Jvm.ClassFile.FieldType)) ∈ zT := zTm 1338 (by decide +kernel) rfl
theorem tw_1339 : (Jvm.Cond.methodLink "RegretLocksModel" (179 : Nat) ({ cls := "RegretLocksModel", name := "halves", desc := "(I)V" } : Jvm.MethodName)) ∈ zT := zTm 1339 (by decide +kernel) rfl
theorem tw_1341 : (Jvm.Cond.instanceMethod ({ cls := "RegretLocksModel", name := "halves", desc := "(I)V" } : Jvm.MethodName)) ∈ zT := zTm 1341 (by decide +kernel) rfl
theorem tw_1342 : (Jvm.Cond.code ({ cls := "RegretLocksModel", name := "halves", desc := "(I)V" } : Jvm.MethodName) prog_12_method_43_code (3 : Nat) (Option.none : Option Jvm.ClassFile.FieldType)) ∈ zT := zTm 1342 (by decide +kernel) rfl
theorem tw_1343 : (Jvm.Cond.methodLink "RegretLocksLaw" (81 : Nat) ({ cls := "RegretLocksModel", name := "town", desc := "(I)I" } : Jvm.MethodName)) ∈ zT := zTm 1343 (by decide +kernel) rfl
theorem tw_1344 : (Jvm.Cond.instanceMethod ({ cls := "RegretLocksModel", name := "town", desc := "(I)I" } : Jvm.MethodName)) ∈ zT := zTm 1344 (by decide +kernel) rfl
theorem tw_1345 : (Jvm.Cond.selects "RegretLocksModel" ({ cls := "RegretLocksModel", name := "town", desc := "(I)I" } : Jvm.MethodName) ({ cls := "RegretLocksModel", name := "town", desc := "(I)I" } : Jvm.MethodName)) ∈ zT := zTm 1345 (by decide +kernel) rfl
theorem tw_1346 : (Jvm.Cond.code ({ cls := "RegretLocksModel", name := "town", desc := "(I)I" } : Jvm.MethodName) prog_12_method_48_code (4 : Nat) (Option.some Jvm.ClassFile.FieldType.int)) ∈ zT := zTm 1346 (by decide +kernel) rfl
theorem tw_1347 : (Jvm.Cond.methodLink "RegretLocksModel" (188 : Nat) ({ cls := "RegretLocksModel", name := "regretsOfAll", desc := "()I" } : Jvm.MethodName)) ∈ zT := zTm 1347 (by decide +kernel) rfl
theorem tw_1349 : (Jvm.Cond.instanceMethod ({ cls := "RegretLocksModel", name := "regretsOfAll", desc := "()I" } : Jvm.MethodName)) ∈ zT := zTm 1349 (by decide +kernel) rfl
theorem tw_1350 : (Jvm.Cond.code ({ cls := "RegretLocksModel", name := "regretsOfAll", desc := "()I" } : Jvm.MethodName) prog_12_method_47_code (3 : Nat) (Option.some Jvm.ClassFile.FieldType.int)) ∈ zT := zTm 1350 (by decide +kernel) rfl
theorem tw_1351 : (Jvm.Cond.methodLink "RegretLocksLaw" (85 : Nat) ({ cls := "RegretLocksModel", name := "reach", desc := "(I)I" } : Jvm.MethodName)) ∈ zT := zTm 1351 (by decide +kernel) rfl
theorem tw_1352 : (Jvm.Cond.instanceMethod ({ cls := "RegretLocksModel", name := "reach", desc := "(I)I" } : Jvm.MethodName)) ∈ zT := zTm 1352 (by decide +kernel) rfl
theorem tw_1353 : (Jvm.Cond.selects "RegretLocksModel" ({ cls := "RegretLocksModel", name := "reach", desc := "(I)I" } : Jvm.MethodName) ({ cls := "RegretLocksModel", name := "reach", desc := "(I)I" } : Jvm.MethodName)) ∈ zT := zTm 1353 (by decide +kernel) rfl
theorem tw_1354 : (Jvm.Cond.code ({ cls := "RegretLocksModel", name := "reach", desc := "(I)I" } : Jvm.MethodName) prog_12_method_52_code (2 : Nat) (Option.some Jvm.ClassFile.FieldType.int)) ∈ zT := zTm 1354 (by decide +kernel) rfl
theorem tw_1355 : (Jvm.Cond.methodLink "RegretLocksModel" (197 : Nat) ({ cls := "RegretLocksModel", name := "reached", desc := "(I)I" } : Jvm.MethodName)) ∈ zT := zTm 1355 (by decide +kernel) rfl
theorem tw_1357 : (Jvm.Cond.instanceMethod ({ cls := "RegretLocksModel", name := "reached", desc := "(I)I" } : Jvm.MethodName)) ∈ zT := zTm 1357 (by decide +kernel) rfl
theorem tw_1358 : (Jvm.Cond.code ({ cls := "RegretLocksModel", name := "reached", desc := "(I)I" } : Jvm.MethodName) prog_12_method_51_code (4 : Nat) (Option.some Jvm.ClassFile.FieldType.int)) ∈ zT := zTm 1358 (by decide +kernel) rfl
theorem tw_1359 : (Jvm.Cond.methodLink "RegretLocksModel" (194 : Nat) ({ cls := "RegretLocksModel", name := "findRooms", desc := "(I)V" } : Jvm.MethodName)) ∈ zT := zTm 1359 (by decide +kernel) rfl
theorem tw_1361 : (Jvm.Cond.instanceMethod ({ cls := "RegretLocksModel", name := "findRooms", desc := "(I)V" } : Jvm.MethodName)) ∈ zT := zTm 1361 (by decide +kernel) rfl
theorem tw_1362 : (Jvm.Cond.code ({ cls := "RegretLocksModel", name := "findRooms", desc := "(I)V" } : Jvm.MethodName) prog_12_method_49_code (8 : Nat) (Option.none : Option Jvm.ClassFile.FieldType)) ∈ zT := zTm 1362 (by decide +kernel) rfl
theorem tw_1363 : (Jvm.Cond.methodLink "RegretLocksModel" (191 : Nat) ({ cls := "RegretLocksModel", name := "latches", desc := "(I)I" } : Jvm.MethodName)) ∈ zT := zTm 1363 (by decide +kernel) rfl
theorem tw_1364 : (Jvm.Cond.static ({ cls := "RegretLocksModel", name := "latches", desc := "(I)I" } : Jvm.MethodName)) ∈ zT := zTm 1364 (by decide +kernel) rfl
theorem tw_1365 : (Jvm.Cond.code ({ cls := "RegretLocksModel", name := "latches", desc := "(I)I" } : Jvm.MethodName) prog_12_method_50_code (1 : Nat) (Option.some Jvm.ClassFile.FieldType.int)) ∈ zT := zTm 1365 (by decide +kernel) rfl
theorem tw_1366 : (Jvm.Cond.methodLink "RegretLocksLaw" (89 : Nat) ({ cls := "RegretLocksModel", name := "way", desc := "(II)I" } : Jvm.MethodName)) ∈ zT := zTm 1366 (by decide +kernel) rfl
theorem tw_1367 : (Jvm.Cond.instanceMethod ({ cls := "RegretLocksModel", name := "way", desc := "(II)I" } : Jvm.MethodName)) ∈ zT := zTm 1367 (by decide +kernel) rfl
theorem tw_1368 : (Jvm.Cond.selects "RegretLocksModel" ({ cls := "RegretLocksModel", name := "way", desc := "(II)I" } : Jvm.MethodName) ({ cls := "RegretLocksModel", name := "way", desc := "(II)I" } : Jvm.MethodName)) ∈ zT := zTm 1368 (by decide +kernel) rfl
theorem tw_1369 : (Jvm.Cond.code ({ cls := "RegretLocksModel", name := "way", desc := "(II)I" } : Jvm.MethodName) prog_12_method_53_code (6 : Nat) (Option.some Jvm.ClassFile.FieldType.int)) ∈ zT := zTm 1369 (by decide +kernel) rfl
theorem tw_1370 : (Jvm.Cond.constant "RegretLocksModel" (70 : Nat) (-1000000005 : Int32)) ∈ zT := zTm 1370 (by decide +kernel) rfl
theorem tw_1371 : (Jvm.Cond.methodLink "RegretLocksLaw" (97 : Nat) ({ cls := "RegretLocksModel", name := "just", desc := "(II)I" } : Jvm.MethodName)) ∈ zT := zTm 1371 (by decide +kernel) rfl
theorem tw_1372 : (Jvm.Cond.instanceMethod ({ cls := "RegretLocksModel", name := "just", desc := "(II)I" } : Jvm.MethodName)) ∈ zT := zTm 1372 (by decide +kernel) rfl
theorem tw_1373 : (Jvm.Cond.selects "RegretLocksModel" ({ cls := "RegretLocksModel", name := "just", desc := "(II)I" } : Jvm.MethodName) ({ cls := "RegretLocksModel", name := "just", desc := "(II)I" } : Jvm.MethodName)) ∈ zT := zTm 1373 (by decide +kernel) rfl
theorem tw_1374 : (Jvm.Cond.code ({ cls := "RegretLocksModel", name := "just", desc := "(II)I" } : Jvm.MethodName) prog_12_method_54_code (6 : Nat) (Option.some Jvm.ClassFile.FieldType.int)) ∈ zT := zTm 1374 (by decide +kernel) rfl
theorem tw_1375 : (Jvm.Cond.methodLink "RegretLocksLaw" (101 : Nat) ({ cls := "RegretLocksModel", name := site_911.name, desc := "(II)I" } : Jvm.MethodName)) ∈ zT := zTm 1375 (by decide +kernel) rfl
theorem tw_1376 : (Jvm.Cond.instanceMethod ({ cls := "RegretLocksModel", name := site_911.name, desc := "(II)I" } : Jvm.MethodName)) ∈ zT := zTm 1376 (by decide +kernel) rfl
theorem tw_1377 : (Jvm.Cond.selects "RegretLocksModel" ({ cls := "RegretLocksModel", name := site_911.name, desc := "(II)I" } : Jvm.MethodName) ({ cls := "RegretLocksModel", name := site_911.name, desc := "(II)I" } : Jvm.MethodName)) ∈ zT := zTm 1377 (by decide +kernel) rfl
theorem tw_1378 : (Jvm.Cond.code ({ cls := "RegretLocksModel", name := site_911.name, desc := "(II)I" } : Jvm.MethodName) prog_12_method_55_code (5 : Nat) (Option.some Jvm.ClassFile.FieldType.int)) ∈ zT := zTm 1378 (by decide +kernel) rfl
theorem tw_1379 : (Jvm.Cond.methodLink "RegretLocksLaw" (93 : Nat) ({ cls := "RegretLocksModel", name := "pardoned", desc := "(I)I" } : Jvm.MethodName)) ∈ zT := zTm 1379 (by decide +kernel) rfl
theorem tw_1380 : (Jvm.Cond.instanceMethod ({ cls := "RegretLocksModel", name := "pardoned", desc := "(I)I" } : Jvm.MethodName)) ∈ zT := zTm 1380 (by decide +kernel) rfl
theorem tw_1381 : (Jvm.Cond.selects "RegretLocksModel" ({ cls := "RegretLocksModel", name := "pardoned", desc := "(I)I" } : Jvm.MethodName) ({ cls := "RegretLocksModel", name := "pardoned", desc := "(I)I" } : Jvm.MethodName)) ∈ zT := zTm 1381 (by decide +kernel) rfl
theorem tw_1382 : (Jvm.Cond.code ({ cls := "RegretLocksModel", name := "pardoned", desc := "(I)I" } : Jvm.MethodName) prog_12_method_58_code (3 : Nat) (Option.some Jvm.ClassFile.FieldType.int)) ∈ zT := zTm 1382 (by decide +kernel) rfl
theorem tw_1383 : (Jvm.Cond.methodLink "RegretLocksModel" (200 : Nat) ({ cls := "RegretLocksModel", name := "laysBy", desc := "()V" } : Jvm.MethodName)) ∈ zT := zTm 1383 (by decide +kernel) rfl
theorem tw_1385 : (Jvm.Cond.instanceMethod ({ cls := "RegretLocksModel", name := "laysBy", desc := "()V" } : Jvm.MethodName)) ∈ zT := zTm 1385 (by decide +kernel) rfl
theorem tw_1386 : (Jvm.Cond.code ({ cls := "RegretLocksModel", name := "laysBy", desc := "()V" } : Jvm.MethodName) prog_12_method_56_code (2 : Nat) (Option.none : Option Jvm.ClassFile.FieldType)) ∈ zT := zTm 1386 (by decide +kernel) rfl
theorem tw_1387 : (Jvm.Cond.methodLink "RegretLocksModel" (203 : Nat) ({ cls := "RegretLocksModel", name := "laysBack", desc := "()V" } : Jvm.MethodName)) ∈ zT := zTm 1387 (by decide +kernel) rfl
theorem tw_1389 : (Jvm.Cond.instanceMethod ({ cls := "RegretLocksModel", name := "laysBack", desc := "()V" } : Jvm.MethodName)) ∈ zT := zTm 1389 (by decide +kernel) rfl
theorem tw_1390 : (Jvm.Cond.code ({ cls := "RegretLocksModel", name := "laysBack", desc := "()V" } : Jvm.MethodName) prog_12_method_57_code (2 : Nat) (Option.none : Option Jvm.ClassFile.FieldType)) ∈ zT := zTm 1390 (by decide +kernel) rfl
theorem tw_1391 : (Jvm.Cond.methodLink "RegretLocksLaw" (105 : Nat) ({ cls := "RegretLocksModel", name := "behind", desc := "(II)I" } : Jvm.MethodName)) ∈ zT := zTm 1391 (by decide +kernel) rfl
theorem tw_1392 : (Jvm.Cond.instanceMethod ({ cls := "RegretLocksModel", name := "behind", desc := "(II)I" } : Jvm.MethodName)) ∈ zT := zTm 1392 (by decide +kernel) rfl
theorem tw_1393 : (Jvm.Cond.selects "RegretLocksModel" ({ cls := "RegretLocksModel", name := "behind", desc := "(II)I" } : Jvm.MethodName) ({ cls := "RegretLocksModel", name := "behind", desc := "(II)I" } : Jvm.MethodName)) ∈ zT := zTm 1393 (by decide +kernel) rfl
theorem tw_1394 : (Jvm.Cond.code ({ cls := "RegretLocksModel", name := "behind", desc := "(II)I" } : Jvm.MethodName) prog_12_method_59_code (4 : Nat) (Option.some Jvm.ClassFile.FieldType.int)) ∈ zT := zTm 1394 (by decide +kernel) rfl
theorem tw_1395 : (Jvm.Cond.methodLink "RegretLocksLaw" (109 : Nat) ({ cls := "RegretLocksModel", name := "enters", desc := "(II)I" } : Jvm.MethodName)) ∈ zT := zTm 1395 (by decide +kernel) rfl
theorem tw_1396 : (Jvm.Cond.instanceMethod ({ cls := "RegretLocksModel", name := "enters", desc := "(II)I" } : Jvm.MethodName)) ∈ zT := zTm 1396 (by decide +kernel) rfl
theorem tw_1397 : (Jvm.Cond.selects "RegretLocksModel" ({ cls := "RegretLocksModel", name := "enters", desc := "(II)I" } : Jvm.MethodName) ({ cls := "RegretLocksModel", name := "enters", desc := "(II)I" } : Jvm.MethodName)) ∈ zT := zTm 1397 (by decide +kernel) rfl
theorem tw_1398 : (Jvm.Cond.code ({ cls := "RegretLocksModel", name := "enters", desc := "(II)I" } : Jvm.MethodName) prog_12_method_60_code (4 : Nat) (Option.some Jvm.ClassFile.FieldType.int)) ∈ zT := zTm 1398 (by decide +kernel) rfl
theorem tw_1399 : (Jvm.Cond.methodLink "RegretLocksLaw" (113 : Nat) ({ cls := "RegretLocksModel", name := "freed", desc := "(II)I" } : Jvm.MethodName)) ∈ zT := zTm 1399 (by decide +kernel) rfl
theorem tw_1400 : (Jvm.Cond.instanceMethod ({ cls := "RegretLocksModel", name := "freed", desc := "(II)I" } : Jvm.MethodName)) ∈ zT := zTm 1400 (by decide +kernel) rfl
theorem tw_1401 : (Jvm.Cond.selects "RegretLocksModel" ({ cls := "RegretLocksModel", name := "freed", desc := "(II)I" } : Jvm.MethodName) ({ cls := "RegretLocksModel", name := "freed", desc := "(II)I" } : Jvm.MethodName)) ∈ zT := zTm 1401 (by decide +kernel) rfl
theorem tw_1402 : (Jvm.Cond.code ({ cls := "RegretLocksModel", name := "freed", desc := "(II)I" } : Jvm.MethodName) prog_12_method_62_code (7 : Nat) (Option.some Jvm.ClassFile.FieldType.int)) ∈ zT := zTm 1402 (by decide +kernel) rfl
theorem tw_1403 : (Jvm.Cond.methodLink "RegretLocksModel" (208 : Nat) ({ cls := "RegretLocksModel", name := "isAsked", desc := "(II)Z" } : Jvm.MethodName)) ∈ zT := zTm 1403 (by decide +kernel) rfl
theorem tw_1404 : (Jvm.Cond.static ({ cls := "RegretLocksModel", name := "isAsked", desc := "(II)Z" } : Jvm.MethodName)) ∈ zT := zTm 1404 (by decide +kernel) rfl
theorem tw_1405 : (Jvm.Cond.code ({ cls := "RegretLocksModel", name := "isAsked", desc := "(II)Z" } : Jvm.MethodName) prog_12_method_61_code (2 : Nat) (Option.some Jvm.ClassFile.FieldType.boolean)) ∈ zT := zTm 1405 (by decide +kernel) rfl
theorem tw_1406 : (Jvm.Cond.constantLong "RegretLocksModel" (206 : Nat) (60 : Int64)) ∈ zT := zTm 1406 (by decide +kernel) rfl
theorem tw_1407 : (Jvm.Cond.methodLink "RegretLocksLaw" (117 : Nat) ({ cls := "RegretLocksModel", name := "becomes", desc := "(III)I" } : Jvm.MethodName)) ∈ zT := zTm 1407 (by decide +kernel) rfl
theorem tw_1408 : (Jvm.Cond.instanceMethod ({ cls := "RegretLocksModel", name := "becomes", desc := "(III)I" } : Jvm.MethodName)) ∈ zT := zTm 1408 (by decide +kernel) rfl
theorem tw_1409 : (Jvm.Cond.selects "RegretLocksModel" ({ cls := "RegretLocksModel", name := "becomes", desc := "(III)I" } : Jvm.MethodName) ({ cls := "RegretLocksModel", name := "becomes", desc := "(III)I" } : Jvm.MethodName)) ∈ zT := zTm 1409 (by decide +kernel) rfl
theorem tw_1410 : (Jvm.Cond.code ({ cls := "RegretLocksModel", name := "becomes", desc := "(III)I" } : Jvm.MethodName) prog_12_method_63_code (8 : Nat) (Option.some Jvm.ClassFile.FieldType.int)) ∈ zT := zTm 1410 (by decide +kernel) rfl
theorem tw_1411 : (Jvm.Cond.methodLink "RegretLocksLaw" (126 : Nat) ({ cls := "RegretLocksModel", name := "fee", desc := "()I" } : Jvm.MethodName)) ∈ zT := zTm 1411 (by decide +kernel) rfl
theorem tw_1412 : (Jvm.Cond.instanceMethod ({ cls := "RegretLocksModel", name := "fee", desc := "()I" } : Jvm.MethodName)) ∈ zT := zTm 1412 (by decide +kernel) rfl
theorem tw_1413 : (Jvm.Cond.selects "RegretLocksModel" ({ cls := "RegretLocksModel", name := "fee", desc := "()I" } : Jvm.MethodName) ({ cls := "RegretLocksModel", name := "fee", desc := "()I" } : Jvm.MethodName)) ∈ zT := zTm 1413 (by decide +kernel) rfl
theorem tw_1414 : (Jvm.Cond.code ({ cls := "RegretLocksModel", name := "fee", desc := "()I" } : Jvm.MethodName) prog_12_method_64_code (2 : Nat) (Option.some Jvm.ClassFile.FieldType.int)) ∈ zT := zTm 1414 (by decide +kernel) rfl
theorem tw_1415 : (Jvm.Cond.methodLink "RegretLocksLaw" (130 : Nat) ({ cls := "RegretLocksModel", name := "fine", desc := "(I)I" } : Jvm.MethodName)) ∈ zT := zTm 1415 (by decide +kernel) rfl
theorem tw_1416 : (Jvm.Cond.instanceMethod ({ cls := "RegretLocksModel", name := "fine", desc := "(I)I" } : Jvm.MethodName)) ∈ zT := zTm 1416 (by decide +kernel) rfl
theorem tw_1417 : (Jvm.Cond.selects "RegretLocksModel" ({ cls := "RegretLocksModel", name := "fine", desc := "(I)I" } : Jvm.MethodName) ({ cls := "RegretLocksModel", name := "fine", desc := "(I)I" } : Jvm.MethodName)) ∈ zT := zTm 1417 (by decide +kernel) rfl
theorem tw_1418 : (Jvm.Cond.code ({ cls := "RegretLocksModel", name := "fine", desc := "(I)I" } : Jvm.MethodName) prog_12_method_65_code (3 : Nat) (Option.some Jvm.ClassFile.FieldType.int)) ∈ zT := zTm 1418 (by decide +kernel) rfl
theorem tw_1419 : (Jvm.Cond.methodLink "RegretLocksLaw" (134 : Nat) ({ cls := "RegretLocksModel", name := "feed", desc := "(III)I" } : Jvm.MethodName)) ∈ zT := zTm 1419 (by decide +kernel) rfl
theorem tw_1420 : (Jvm.Cond.instanceMethod ({ cls := "RegretLocksModel", name := "feed", desc := "(III)I" } : Jvm.MethodName)) ∈ zT := zTm 1420 (by decide +kernel) rfl
theorem tw_1421 : (Jvm.Cond.selects "RegretLocksModel" ({ cls := "RegretLocksModel", name := "feed", desc := "(III)I" } : Jvm.MethodName) ({ cls := "RegretLocksModel", name := "feed", desc := "(III)I" } : Jvm.MethodName)) ∈ zT := zTm 1421 (by decide +kernel) rfl
theorem tw_1422 : (Jvm.Cond.code ({ cls := "RegretLocksModel", name := "feed", desc := "(III)I" } : Jvm.MethodName) prog_12_method_66_code (6 : Nat) (Option.some Jvm.ClassFile.FieldType.int)) ∈ zT := zTm 1422 (by decide +kernel) rfl
theorem tw_1423 : (Jvm.Cond.methodLink "RegretLocksLaw" (138 : Nat) ({ cls := "RegretLocksModel", name := "trim", desc := "(I)I" } : Jvm.MethodName)) ∈ zT := zTm 1423 (by decide +kernel) rfl
theorem tw_1424 : (Jvm.Cond.instanceMethod ({ cls := "RegretLocksModel", name := "trim", desc := "(I)I" } : Jvm.MethodName)) ∈ zT := zTm 1424 (by decide +kernel) rfl
theorem tw_1425 : (Jvm.Cond.selects "RegretLocksModel" ({ cls := "RegretLocksModel", name := "trim", desc := "(I)I" } : Jvm.MethodName) ({ cls := "RegretLocksModel", name := "trim", desc := "(I)I" } : Jvm.MethodName)) ∈ zT := zTm 1425 (by decide +kernel) rfl
theorem tw_1426 : (Jvm.Cond.code ({ cls := "RegretLocksModel", name := "trim", desc := "(I)I" } : Jvm.MethodName) prog_12_method_67_code (2 : Nat) (Option.some Jvm.ClassFile.FieldType.int)) ∈ zT := zTm 1426 (by decide +kernel) rfl
theorem tw_1427 : (Jvm.Cond.methodLink "RegretLocksLaw" (142 : Nat) ({ cls := "RegretLocksModel", name := "text", desc := "()I" } : Jvm.MethodName)) ∈ zT := zTm 1427 (by decide +kernel) rfl
theorem tw_1428 : (Jvm.Cond.instanceMethod ({ cls := "RegretLocksModel", name := "text", desc := "()I" } : Jvm.MethodName)) ∈ zT := zTm 1428 (by decide +kernel) rfl
theorem tw_1429 : (Jvm.Cond.selects "RegretLocksModel" ({ cls := "RegretLocksModel", name := "text", desc := "()I" } : Jvm.MethodName) ({ cls := "RegretLocksModel", name := "text", desc := "()I" } : Jvm.MethodName)) ∈ zT := zTm 1429 (by decide +kernel) rfl
theorem tw_1430 : (Jvm.Cond.code ({ cls := "RegretLocksModel", name := "text", desc := "()I" } : Jvm.MethodName) prog_12_method_83_code (3 : Nat) (Option.some Jvm.ClassFile.FieldType.int)) ∈ zT := zTm 1430 (by decide +kernel) rfl
theorem tw_1431 : (Jvm.Cond.methodLink "RegretLocksModel" (298 : Nat) ({ cls := "RegretLocksModel", name := "parse", desc := "()I" } : Jvm.MethodName)) ∈ zT := zTm 1431 (by decide +kernel) rfl
theorem tw_1433 : (Jvm.Cond.instanceMethod ({ cls := "RegretLocksModel", name := "parse", desc := "()I" } : Jvm.MethodName)) ∈ zT := zTm 1433 (by decide +kernel) rfl
theorem tw_1434 : (Jvm.Cond.code ({ cls := "RegretLocksModel", name := "parse", desc := "()I" } : Jvm.MethodName) prog_12_method_82_code (3 : Nat) (Option.some Jvm.ClassFile.FieldType.int)) ∈ zT := zTm 1434 (by decide +kernel) rfl
theorem tw_1435 : (Jvm.Cond.methodLink "RegretLocksModel" (259 : Nat) ({ cls := "RegretLocksModel", name := "nextToken", desc := "()V" } : Jvm.MethodName)) ∈ zT := zTm 1435 (by decide +kernel) rfl
theorem tw_1437 : (Jvm.Cond.instanceMethod ({ cls := "RegretLocksModel", name := "nextToken", desc := "()V" } : Jvm.MethodName)) ∈ zT := zTm 1437 (by decide +kernel) rfl
theorem tw_1438 : (Jvm.Cond.code ({ cls := "RegretLocksModel", name := "nextToken", desc := "()V" } : Jvm.MethodName) prog_12_method_70_code (3 : Nat) (Option.none : Option Jvm.ClassFile.FieldType)) ∈ zT := zTm 1438 (by decide +kernel) rfl
theorem tw_1439 : (Jvm.Cond.methodLink "RegretLocksModel" (232 : Nat) ({ cls := "RegretLocksModel", name := "isLetter", desc := "(I)Z" } : Jvm.MethodName)) ∈ zT := zTm 1439 (by decide +kernel) rfl
theorem tw_1441 : (Jvm.Cond.instanceMethod ({ cls := "RegretLocksModel", name := "isLetter", desc := "(I)Z" } : Jvm.MethodName)) ∈ zT := zTm 1441 (by decide +kernel) rfl
theorem tw_1442 : (Jvm.Cond.code ({ cls := "RegretLocksModel", name := "isLetter", desc := "(I)Z" } : Jvm.MethodName) prog_12_method_68_code (2 : Nat) (Option.some Jvm.ClassFile.FieldType.boolean)) ∈ zT := zTm 1442 (by decide +kernel) rfl
theorem tw_1443 : (Jvm.Cond.constantLong "RegretLocksModel" (215 : Nat) (97 : Int64)) ∈ zT := zTm 1443 (by decide +kernel) rfl
theorem tw_1444 : (Jvm.Cond.constantLong "RegretLocksModel" (217 : Nat) (122 : Int64)) ∈ zT := zTm 1444 (by decide +kernel) rfl
theorem tw_1445 : (Jvm.Cond.methodLink "RegretLocksModel" (238 : Nat) ({ cls := "RegretLocksModel", name := "isDigit", desc := "(I)Z" } : Jvm.MethodName)) ∈ zT := zTm 1445 (by decide +kernel) rfl
theorem tw_1447 : (Jvm.Cond.instanceMethod ({ cls := "RegretLocksModel", name := "isDigit", desc := "(I)Z" } : Jvm.MethodName)) ∈ zT := zTm 1447 (by decide +kernel) rfl
theorem tw_1448 : (Jvm.Cond.code ({ cls := "RegretLocksModel", name := "isDigit", desc := "(I)Z" } : Jvm.MethodName) prog_12_method_69_code (2 : Nat) (Option.some Jvm.ClassFile.FieldType.boolean)) ∈ zT := zTm 1448 (by decide +kernel) rfl
theorem tw_1449 : (Jvm.Cond.constantLong "RegretLocksModel" (219 : Nat) (48 : Int64)) ∈ zT := zTm 1449 (by decide +kernel) rfl
theorem tw_1450 : (Jvm.Cond.constantLong "RegretLocksModel" (221 : Nat) (57 : Int64)) ∈ zT := zTm 1450 (by decide +kernel) rfl
theorem tw_1451 : (Jvm.Cond.methodLink "RegretLocksModel" (295 : Nat) ({ cls := "RegretLocksModel", name := "key", desc := "()I" } : Jvm.MethodName)) ∈ zT := zTm 1451 (by decide +kernel) rfl
theorem tw_1453 : (Jvm.Cond.instanceMethod ({ cls := "RegretLocksModel", name := "key", desc := "()I" } : Jvm.MethodName)) ∈ zT := zTm 1453 (by decide +kernel) rfl
theorem tw_1454 : (Jvm.Cond.code ({ cls := "RegretLocksModel", name := "key", desc := "()I" } : Jvm.MethodName) prog_12_method_73_code (1 : Nat) (Option.some Jvm.ClassFile.FieldType.int)) ∈ zT := zTm 1454 (by decide +kernel) rfl
theorem tw_1455 : (Jvm.Cond.methodLink "RegretLocksModel" (244 : Nat) ({ cls := "RegretLocksModel", name := "isWordAt", desc := "(IIII)Z" } : Jvm.MethodName)) ∈ zT := zTm 1455 (by decide +kernel) rfl
theorem tw_1457 : (Jvm.Cond.instanceMethod ({ cls := "RegretLocksModel", name := "isWordAt", desc := "(IIII)Z" } : Jvm.MethodName)) ∈ zT := zTm 1457 (by decide +kernel) rfl
theorem tw_1458 : (Jvm.Cond.code ({ cls := "RegretLocksModel", name := "isWordAt", desc := "(IIII)Z" } : Jvm.MethodName) prog_12_method_72_code (6 : Nat) (Option.some Jvm.ClassFile.FieldType.boolean)) ∈ zT := zTm 1458 (by decide +kernel) rfl
theorem tw_1459 : (Jvm.Cond.methodLink "RegretLocksModel" (289 : Nat) ({ cls := "RegretLocksModel", name := "either", desc := "(I)Z" } : Jvm.MethodName)) ∈ zT := zTm 1459 (by decide +kernel) rfl
theorem tw_1461 : (Jvm.Cond.instanceMethod ({ cls := "RegretLocksModel", name := "either", desc := "(I)Z" } : Jvm.MethodName)) ∈ zT := zTm 1461 (by decide +kernel) rfl
theorem tw_1462 : (Jvm.Cond.code ({ cls := "RegretLocksModel", name := "either", desc := "(I)Z" } : Jvm.MethodName) prog_12_method_76_code (2 : Nat) (Option.some Jvm.ClassFile.FieldType.boolean)) ∈ zT := zTm 1462 (by decide +kernel) rfl
theorem tw_1463 : (Jvm.Cond.methodLink "RegretLocksModel" (253 : Nat) ({ cls := "RegretLocksModel", name := "both", desc := "(I)Z" } : Jvm.MethodName)) ∈ zT := zTm 1463 (by decide +kernel) rfl
theorem tw_1465 : (Jvm.Cond.instanceMethod ({ cls := "RegretLocksModel", name := "both", desc := "(I)Z" } : Jvm.MethodName)) ∈ zT := zTm 1465 (by decide +kernel) rfl
theorem tw_1466 : (Jvm.Cond.code ({ cls := "RegretLocksModel", name := "both", desc := "(I)Z" } : Jvm.MethodName) prog_12_method_77_code (2 : Nat) (Option.some Jvm.ClassFile.FieldType.boolean)) ∈ zT := zTm 1466 (by decide +kernel) rfl
theorem tw_1467 : (Jvm.Cond.methodLink "RegretLocksModel" (265 : Nat) ({ cls := "RegretLocksModel", name := "test", desc := "(I)Z" } : Jvm.MethodName)) ∈ zT := zTm 1467 (by decide +kernel) rfl
theorem tw_1469 : (Jvm.Cond.instanceMethod ({ cls := "RegretLocksModel", name := "test", desc := "(I)Z" } : Jvm.MethodName)) ∈ zT := zTm 1469 (by decide +kernel) rfl
theorem tw_1470 : (Jvm.Cond.code ({ cls := "RegretLocksModel", name := "test", desc := "(I)Z" } : Jvm.MethodName) prog_12_method_78_code (3 : Nat) (Option.some Jvm.ClassFile.FieldType.boolean)) ∈ zT := zTm 1470 (by decide +kernel) rfl
theorem tw_1471 : (Jvm.Cond.methodLink "RegretLocksModel" (268 : Nat) ({ cls := "RegretLocksModel", name := "sum", desc := "(I)Z" } : Jvm.MethodName)) ∈ zT := zTm 1471 (by decide +kernel) rfl
theorem tw_1473 : (Jvm.Cond.instanceMethod ({ cls := "RegretLocksModel", name := "sum", desc := "(I)Z" } : Jvm.MethodName)) ∈ zT := zTm 1473 (by decide +kernel) rfl
theorem tw_1474 : (Jvm.Cond.code ({ cls := "RegretLocksModel", name := "sum", desc := "(I)Z" } : Jvm.MethodName) prog_12_method_79_code (3 : Nat) (Option.some Jvm.ClassFile.FieldType.boolean)) ∈ zT := zTm 1474 (by decide +kernel) rfl
theorem tw_1475 : (Jvm.Cond.methodLink "RegretLocksModel" (271 : Nat) ({ cls := "RegretLocksModel", name := "term", desc := "(I)Z" } : Jvm.MethodName)) ∈ zT := zTm 1475 (by decide +kernel) rfl
theorem tw_1477 : (Jvm.Cond.instanceMethod ({ cls := "RegretLocksModel", name := "term", desc := "(I)Z" } : Jvm.MethodName)) ∈ zT := zTm 1477 (by decide +kernel) rfl
theorem tw_1478 : (Jvm.Cond.code ({ cls := "RegretLocksModel", name := "term", desc := "(I)Z" } : Jvm.MethodName) prog_12_method_80_code (3 : Nat) (Option.some Jvm.ClassFile.FieldType.boolean)) ∈ zT := zTm 1478 (by decide +kernel) rfl
theorem tw_1479 : (Jvm.Cond.methodLink "RegretLocksModel" (274 : Nat) ({ cls := "RegretLocksModel", name := "part0", desc := "(I)Z" } : Jvm.MethodName)) ∈ zT := zTm 1479 (by decide +kernel) rfl
theorem tw_1481 : (Jvm.Cond.instanceMethod ({ cls := "RegretLocksModel", name := "part0", desc := "(I)Z" } : Jvm.MethodName)) ∈ zT := zTm 1481 (by decide +kernel) rfl
theorem tw_1482 : (Jvm.Cond.code ({ cls := "RegretLocksModel", name := "part0", desc := "(I)Z" } : Jvm.MethodName) prog_12_method_81_code (2 : Nat) (Option.some Jvm.ClassFile.FieldType.boolean)) ∈ zT := zTm 1482 (by decide +kernel) rfl
theorem tw_1483 : (Jvm.Cond.methodLink "RegretLocksModel" (262 : Nat) ({ cls := "RegretLocksModel", name := "step", desc := "(II)V" } : Jvm.MethodName)) ∈ zT := zTm 1483 (by decide +kernel) rfl
theorem tw_1485 : (Jvm.Cond.instanceMethod ({ cls := "RegretLocksModel", name := "step", desc := "(II)V" } : Jvm.MethodName)) ∈ zT := zTm 1485 (by decide +kernel) rfl
theorem tw_1486 : (Jvm.Cond.code ({ cls := "RegretLocksModel", name := "step", desc := "(II)V" } : Jvm.MethodName) prog_12_method_75_code (3 : Nat) (Option.none : Option Jvm.ClassFile.FieldType)) ∈ zT := zTm 1486 (by decide +kernel) rfl
theorem tw_1487 : (Jvm.Cond.methodLink "RegretLocksModel" (280 : Nat) ({ cls := "RegretLocksModel", name := "isName", desc := "(II)Z" } : Jvm.MethodName)) ∈ zT := zTm 1487 (by decide +kernel) rfl
theorem tw_1488 : (Jvm.Cond.static ({ cls := "RegretLocksModel", name := "isName", desc := "(II)Z" } : Jvm.MethodName)) ∈ zT := zTm 1488 (by decide +kernel) rfl
theorem tw_1489 : (Jvm.Cond.code ({ cls := "RegretLocksModel", name := "isName", desc := "(II)Z" } : Jvm.MethodName) prog_12_method_74_code (2 : Nat) (Option.some Jvm.ClassFile.FieldType.boolean)) ∈ zT := zTm 1489 (by decide +kernel) rfl
theorem tw_1490 : (Jvm.Cond.methodLink "RegretLocksModel" (256 : Nat) ({ cls := "RegretLocksModel", name := "isSign", desc := "(I)Z" } : Jvm.MethodName)) ∈ zT := zTm 1490 (by decide +kernel) rfl
theorem tw_1492 : (Jvm.Cond.instanceMethod ({ cls := "RegretLocksModel", name := "isSign", desc := "(I)Z" } : Jvm.MethodName)) ∈ zT := zTm 1492 (by decide +kernel) rfl
theorem tw_1493 : (Jvm.Cond.code ({ cls := "RegretLocksModel", name := "isSign", desc := "(I)Z" } : Jvm.MethodName) prog_12_method_71_code (2 : Nat) (Option.some Jvm.ClassFile.FieldType.boolean)) ∈ zT := zTm 1493 (by decide +kernel) rfl
theorem tw_1494 : (Jvm.Cond.methodLink "RegretLocksLaw" (146 : Nat) ({ cls := "RegretLocksModel", name := "textTold", desc := "(II)I" } : Jvm.MethodName)) ∈ zT := zTm 1494 (by decide +kernel) rfl
theorem tw_1495 : (Jvm.Cond.instanceMethod ({ cls := "RegretLocksModel", name := "textTold", desc := "(II)I" } : Jvm.MethodName)) ∈ zT := zTm 1495 (by decide +kernel) rfl
theorem tw_1496 : (Jvm.Cond.selects "RegretLocksModel" ({ cls := "RegretLocksModel", name := "textTold", desc := "(II)I" } : Jvm.MethodName) ({ cls := "RegretLocksModel", name := "textTold", desc := "(II)I" } : Jvm.MethodName)) ∈ zT := zTm 1496 (by decide +kernel) rfl
theorem tw_1497 : (Jvm.Cond.code ({ cls := "RegretLocksModel", name := "textTold", desc := "(II)I" } : Jvm.MethodName) prog_12_method_84_code (3 : Nat) (Option.some Jvm.ClassFile.FieldType.int)) ∈ zT := zTm 1497 (by decide +kernel) rfl
theorem tw_1498 : (Jvm.Cond.methodLink "RegretLocksModel" (301 : Nat) ({ cls := "RegretLocksModel", name := "isText", desc := "(I)Z" } : Jvm.MethodName)) ∈ zT := zTm 1498 (by decide +kernel) rfl
theorem tw_1500 : (Jvm.Cond.instanceMethod ({ cls := "RegretLocksModel", name := "isText", desc := "(I)Z" } : Jvm.MethodName)) ∈ zT := zTm 1500 (by decide +kernel) rfl
theorem tw_1501 : (Jvm.Cond.code ({ cls := "RegretLocksModel", name := "isText", desc := "(I)Z" } : Jvm.MethodName) prog_12_method_11_code (2 : Nat) (Option.some Jvm.ClassFile.FieldType.boolean)) ∈ zT := zTm 1501 (by decide +kernel) rfl
theorem tw_1502 : (Jvm.Cond.methodLink "RegretLocksLaw" (150 : Nat) ({ cls := "RegretLocksModel", name := "why", desc := "(I)I" } : Jvm.MethodName)) ∈ zT := zTm 1502 (by decide +kernel) rfl
theorem tw_1503 : (Jvm.Cond.instanceMethod ({ cls := "RegretLocksModel", name := "why", desc := "(I)I" } : Jvm.MethodName)) ∈ zT := zTm 1503 (by decide +kernel) rfl
theorem tw_1504 : (Jvm.Cond.selects "RegretLocksModel" ({ cls := "RegretLocksModel", name := "why", desc := "(I)I" } : Jvm.MethodName) ({ cls := "RegretLocksModel", name := "why", desc := "(I)I" } : Jvm.MethodName)) ∈ zT := zTm 1504 (by decide +kernel) rfl
theorem tw_1505 : (Jvm.Cond.code ({ cls := "RegretLocksModel", name := "why", desc := "(I)I" } : Jvm.MethodName) prog_12_method_86_code (2 : Nat) (Option.some Jvm.ClassFile.FieldType.int)) ∈ zT := zTm 1505 (by decide +kernel) rfl
theorem tw_1506 : (Jvm.Cond.methodLink "RegretLocksModel" (304 : Nat) ({ cls := "RegretLocksModel", name := "orNone", desc := "(I)I" } : Jvm.MethodName)) ∈ zT := zTm 1506 (by decide +kernel) rfl
theorem tw_1507 : (Jvm.Cond.static ({ cls := "RegretLocksModel", name := "orNone", desc := "(I)I" } : Jvm.MethodName)) ∈ zT := zTm 1507 (by decide +kernel) rfl
theorem tw_1508 : (Jvm.Cond.code ({ cls := "RegretLocksModel", name := "orNone", desc := "(I)I" } : Jvm.MethodName) prog_12_method_3_code (1 : Nat) (Option.some Jvm.ClassFile.FieldType.int)) ∈ zT := zTm 1508 (by decide +kernel) rfl
theorem tw_1509 : (Jvm.Cond.methodLink "RegretLocksLaw" (154 : Nat) ({ cls := "RegretLocksModel", name := "sheet", desc := "(III)I" } : Jvm.MethodName)) ∈ zT := zTm 1509 (by decide +kernel) rfl
theorem tw_1510 : (Jvm.Cond.instanceMethod ({ cls := "RegretLocksModel", name := "sheet", desc := "(III)I" } : Jvm.MethodName)) ∈ zT := zTm 1510 (by decide +kernel) rfl
theorem tw_1511 : (Jvm.Cond.selects "RegretLocksModel" ({ cls := "RegretLocksModel", name := "sheet", desc := "(III)I" } : Jvm.MethodName) ({ cls := "RegretLocksModel", name := "sheet", desc := "(III)I" } : Jvm.MethodName)) ∈ zT := zTm 1511 (by decide +kernel) rfl
theorem tw_1512 : (Jvm.Cond.code ({ cls := "RegretLocksModel", name := "sheet", desc := "(III)I" } : Jvm.MethodName) prog_12_method_90_code (5 : Nat) (Option.some Jvm.ClassFile.FieldType.int)) ∈ zT := zTm 1512 (by decide +kernel) rfl
theorem tw_1513 : (Jvm.Cond.methodLink "RegretLocksModel" (310 : Nat) ({ cls := "RegretLocksModel", name := "isSheet", desc := "(I)Z" } : Jvm.MethodName)) ∈ zT := zTm 1513 (by decide +kernel) rfl
theorem tw_1514 : (Jvm.Cond.static ({ cls := "RegretLocksModel", name := "isSheet", desc := "(I)Z" } : Jvm.MethodName)) ∈ zT := zTm 1514 (by decide +kernel) rfl
theorem tw_1515 : (Jvm.Cond.code ({ cls := "RegretLocksModel", name := "isSheet", desc := "(I)Z" } : Jvm.MethodName) prog_12_method_89_code (1 : Nat) (Option.some Jvm.ClassFile.FieldType.boolean)) ∈ zT := zTm 1515 (by decide +kernel) rfl
theorem tw_1516 : (Jvm.Cond.constantLong "RegretLocksModel" (313 : Nat) (-1 : Int64)) ∈ zT := zTm 1516 (by decide +kernel) rfl
theorem tw_1517 : (Jvm.Cond.constant "RegretLocksModel" (315 : Nat) (-1000000014 : Int32)) ∈ zT := zTm 1517 (by decide +kernel) rfl
theorem tw_1518 : (Jvm.Cond.methodLink "RegretLocksLaw" (158 : Nat) ({ cls := "RegretLocksModel", name := "mark", desc := "(III)I" } : Jvm.MethodName)) ∈ zT := zTm 1518 (by decide +kernel) rfl
theorem tw_1519 : (Jvm.Cond.instanceMethod ({ cls := "RegretLocksModel", name := "mark", desc := "(III)I" } : Jvm.MethodName)) ∈ zT := zTm 1519 (by decide +kernel) rfl
theorem tw_1520 : (Jvm.Cond.selects "RegretLocksModel" ({ cls := "RegretLocksModel", name := "mark", desc := "(III)I" } : Jvm.MethodName) ({ cls := "RegretLocksModel", name := "mark", desc := "(III)I" } : Jvm.MethodName)) ∈ zT := zTm 1520 (by decide +kernel) rfl
theorem tw_1521 : (Jvm.Cond.code ({ cls := "RegretLocksModel", name := "mark", desc := "(III)I" } : Jvm.MethodName) prog_12_method_91_code (4 : Nat) (Option.some Jvm.ClassFile.FieldType.int)) ∈ zT := zTm 1521 (by decide +kernel) rfl
theorem tw_1522 : (Jvm.Cond.constant "RegretLocksModel" (316 : Nat) (-1000000011 : Int32)) ∈ zT := zTm 1522 (by decide +kernel) rfl
theorem tw_1523 : (Jvm.Cond.constant "RegretLocksModel" (317 : Nat) (-1000000013 : Int32)) ∈ zT := zTm 1523 (by decide +kernel) rfl
theorem tw_1524 : (Jvm.Cond.constantLong "RegretLocksModel" (318 : Nat) (-99999 : Int64)) ∈ zT := zTm 1524 (by decide +kernel) rfl
theorem tw_1525 : (Jvm.Cond.constantLong "RegretLocksModel" (320 : Nat) (99999 : Int64)) ∈ zT := zTm 1525 (by decide +kernel) rfl
theorem tw_1526 : (Jvm.Cond.methodLink "RegretLocksLaw" (162 : Nat) ({ cls := "RegretLocksModel", name := "pour", desc := "(I)I" } : Jvm.MethodName)) ∈ zT := zTm 1526 (by decide +kernel) rfl
theorem tw_1527 : (Jvm.Cond.instanceMethod ({ cls := "RegretLocksModel", name := "pour", desc := "(I)I" } : Jvm.MethodName)) ∈ zT := zTm 1527 (by decide +kernel) rfl
theorem tw_1528 : (Jvm.Cond.selects "RegretLocksModel" ({ cls := "RegretLocksModel", name := "pour", desc := "(I)I" } : Jvm.MethodName) ({ cls := "RegretLocksModel", name := "pour", desc := "(I)I" } : Jvm.MethodName)) ∈ zT := zTm 1528 (by decide +kernel) rfl
theorem tw_1529 : (Jvm.Cond.code ({ cls := "RegretLocksModel", name := "pour", desc := "(I)I" } : Jvm.MethodName) prog_12_method_92_code (6 : Nat) (Option.some Jvm.ClassFile.FieldType.int)) ∈ zT := zTm 1529 (by decide +kernel) rfl
theorem tw_1530 : (Jvm.Cond.methodLink "RegretLocksLaw" (166 : Nat) ({ cls := "RegretLocksModel", name := "reads", desc := "(I)I" } : Jvm.MethodName)) ∈ zT := zTm 1530 (by decide +kernel) rfl
theorem tw_1531 : (Jvm.Cond.instanceMethod ({ cls := "RegretLocksModel", name := "reads", desc := "(I)I" } : Jvm.MethodName)) ∈ zT := zTm 1531 (by decide +kernel) rfl
theorem tw_1532 : (Jvm.Cond.selects "RegretLocksModel" ({ cls := "RegretLocksModel", name := "reads", desc := "(I)I" } : Jvm.MethodName) ({ cls := "RegretLocksModel", name := "reads", desc := "(I)I" } : Jvm.MethodName)) ∈ zT := zTm 1532 (by decide +kernel) rfl
theorem tw_1533 : (Jvm.Cond.code ({ cls := "RegretLocksModel", name := "reads", desc := "(I)I" } : Jvm.MethodName) prog_12_method_93_code (4 : Nat) (Option.some Jvm.ClassFile.FieldType.int)) ∈ zT := zTm 1533 (by decide +kernel) rfl
theorem tw_1534 : (Jvm.Cond.methodLink "RegretLocksLaw" (121 : Nat) ({ cls := "RegretLocksModel", name := "like", desc := "(II)I" } : Jvm.MethodName)) ∈ zT := zTm 1534 (by decide +kernel) rfl
theorem tw_1535 : (Jvm.Cond.instanceMethod ({ cls := "RegretLocksModel", name := "like", desc := "(II)I" } : Jvm.MethodName)) ∈ zT := zTm 1535 (by decide +kernel) rfl
theorem tw_1536 : (Jvm.Cond.selects "RegretLocksModel" ({ cls := "RegretLocksModel", name := "like", desc := "(II)I" } : Jvm.MethodName) ({ cls := "RegretLocksModel", name := "like", desc := "(II)I" } : Jvm.MethodName)) ∈ zT := zTm 1536 (by decide +kernel) rfl
theorem tw_1537 : (Jvm.Cond.code ({ cls := "RegretLocksModel", name := "like", desc := "(II)I" } : Jvm.MethodName) prog_12_method_95_code (7 : Nat) (Option.some Jvm.ClassFile.FieldType.int)) ∈ zT := zTm 1537 (by decide +kernel) rfl
theorem tw_1538 : (Jvm.Cond.methodLink "RegretLocksModel" (322 : Nat) ({ cls := "RegretLocksModel", name := "likeOnes", desc := "(II)I" } : Jvm.MethodName)) ∈ zT := zTm 1538 (by decide +kernel) rfl
theorem tw_1540 : (Jvm.Cond.instanceMethod ({ cls := "RegretLocksModel", name := "likeOnes", desc := "(II)I" } : Jvm.MethodName)) ∈ zT := zTm 1540 (by decide +kernel) rfl
theorem tw_1541 : (Jvm.Cond.code ({ cls := "RegretLocksModel", name := "likeOnes", desc := "(II)I" } : Jvm.MethodName) prog_12_method_94_code (6 : Nat) (Option.some Jvm.ClassFile.FieldType.int)) ∈ zT := zTm 1541 (by decide +kernel) rfl
theorem tw_1542 : (Jvm.Cond.methodLink "RegretLocksLaw" (170 : Nat) ({ cls := "RegretLocksModel", name := "copy", desc := "(IIIII)I" } : Jvm.MethodName)) ∈ zT := zTm 1542 (by decide +kernel) rfl
theorem tw_1543 : (Jvm.Cond.instanceMethod ({ cls := "RegretLocksModel", name := "copy", desc := "(IIIII)I" } : Jvm.MethodName)) ∈ zT := zTm 1543 (by decide +kernel) rfl
theorem tw_1544 : (Jvm.Cond.selects "RegretLocksModel" ({ cls := "RegretLocksModel", name := "copy", desc := "(IIIII)I" } : Jvm.MethodName) ({ cls := "RegretLocksModel", name := "copy", desc := "(IIIII)I" } : Jvm.MethodName)) ∈ zT := zTm 1544 (by decide +kernel) rfl
theorem tw_1545 : (Jvm.Cond.code ({ cls := "RegretLocksModel", name := "copy", desc := "(IIIII)I" } : Jvm.MethodName) prog_12_method_96_code (7 : Nat) (Option.some Jvm.ClassFile.FieldType.int)) ∈ zT := zTm 1545 (by decide +kernel) rfl
theorem tw_1546 : (Jvm.Cond.methodLink "RegretLocksLaw" (174 : Nat) ({ cls := "RegretLocksModel", name := "lay", desc := "(III)I" } : Jvm.MethodName)) ∈ zT := zTm 1546 (by decide +kernel) rfl
theorem tw_1547 : (Jvm.Cond.instanceMethod ({ cls := "RegretLocksModel", name := "lay", desc := "(III)I" } : Jvm.MethodName)) ∈ zT := zTm 1547 (by decide +kernel) rfl
theorem tw_1548 : (Jvm.Cond.selects "RegretLocksModel" ({ cls := "RegretLocksModel", name := "lay", desc := "(III)I" } : Jvm.MethodName) ({ cls := "RegretLocksModel", name := "lay", desc := "(III)I" } : Jvm.MethodName)) ∈ zT := zTm 1548 (by decide +kernel) rfl
theorem tw_1549 : (Jvm.Cond.code ({ cls := "RegretLocksModel", name := "lay", desc := "(III)I" } : Jvm.MethodName) prog_12_method_98_code (7 : Nat) (Option.some Jvm.ClassFile.FieldType.int)) ∈ zT := zTm 1549 (by decide +kernel) rfl
theorem tw_1550 : (Jvm.Cond.methodLink "RegretLocksModel" (325 : Nat) ({ cls := "RegretLocksModel", name := "isSlot", desc := "(I)Z" } : Jvm.MethodName)) ∈ zT := zTm 1550 (by decide +kernel) rfl
theorem tw_1551 : (Jvm.Cond.static ({ cls := "RegretLocksModel", name := "isSlot", desc := "(I)Z" } : Jvm.MethodName)) ∈ zT := zTm 1551 (by decide +kernel) rfl
theorem tw_1552 : (Jvm.Cond.code ({ cls := "RegretLocksModel", name := "isSlot", desc := "(I)Z" } : Jvm.MethodName) prog_12_method_97_code (1 : Nat) (Option.some Jvm.ClassFile.FieldType.boolean)) ∈ zT := zTm 1552 (by decide +kernel) rfl
theorem tw_1553 : (Jvm.Cond.methodLink "RegretLocksLaw" (178 : Nat) ({ cls := "RegretLocksModel", name := "ask", desc := "(II)I" } : Jvm.MethodName)) ∈ zT := zTm 1553 (by decide +kernel) rfl
theorem tw_1554 : (Jvm.Cond.instanceMethod ({ cls := "RegretLocksModel", name := "ask", desc := "(II)I" } : Jvm.MethodName)) ∈ zT := zTm 1554 (by decide +kernel) rfl
theorem tw_1555 : (Jvm.Cond.selects "RegretLocksModel" ({ cls := "RegretLocksModel", name := "ask", desc := "(II)I" } : Jvm.MethodName) ({ cls := "RegretLocksModel", name := "ask", desc := "(II)I" } : Jvm.MethodName)) ∈ zT := zTm 1555 (by decide +kernel) rfl
theorem tw_1556 : (Jvm.Cond.code ({ cls := "RegretLocksModel", name := "ask", desc := "(II)I" } : Jvm.MethodName) prog_12_method_99_code (3 : Nat) (Option.some Jvm.ClassFile.FieldType.int)) ∈ zT := zTm 1556 (by decide +kernel) rfl
theorem tw_1557 : (Jvm.Cond.methodLink "RegretLocksLaw" (182 : Nat) ({ cls := "RegretLocksModel", name := "item", desc := "(II)I" } : Jvm.MethodName)) ∈ zT := zTm 1557 (by decide +kernel) rfl
theorem tw_1558 : (Jvm.Cond.instanceMethod ({ cls := "RegretLocksModel", name := "item", desc := "(II)I" } : Jvm.MethodName)) ∈ zT := zTm 1558 (by decide +kernel) rfl
theorem tw_1559 : (Jvm.Cond.selects "RegretLocksModel" ({ cls := "RegretLocksModel", name := "item", desc := "(II)I" } : Jvm.MethodName) ({ cls := "RegretLocksModel", name := "item", desc := "(II)I" } : Jvm.MethodName)) ∈ zT := zTm 1559 (by decide +kernel) rfl
theorem tw_1560 : (Jvm.Cond.code ({ cls := "RegretLocksModel", name := "item", desc := "(II)I" } : Jvm.MethodName) prog_12_method_100_code (4 : Nat) (Option.some Jvm.ClassFile.FieldType.int)) ∈ zT := zTm 1560 (by decide +kernel) rfl
theorem tw_1561 : (Jvm.Cond.methodLink "RegretLocksLaw" (186 : Nat) ({ cls := "RegretLocksModel", name := "rest", desc := "(II)I" } : Jvm.MethodName)) ∈ zT := zTm 1561 (by decide +kernel) rfl
theorem tw_1562 : (Jvm.Cond.instanceMethod ({ cls := "RegretLocksModel", name := "rest", desc := "(II)I" } : Jvm.MethodName)) ∈ zT := zTm 1562 (by decide +kernel) rfl
theorem tw_1563 : (Jvm.Cond.selects "RegretLocksModel" ({ cls := "RegretLocksModel", name := "rest", desc := "(II)I" } : Jvm.MethodName) ({ cls := "RegretLocksModel", name := "rest", desc := "(II)I" } : Jvm.MethodName)) ∈ zT := zTm 1563 (by decide +kernel) rfl
theorem tw_1564 : (Jvm.Cond.code ({ cls := "RegretLocksModel", name := "rest", desc := "(II)I" } : Jvm.MethodName) prog_12_method_101_code (3 : Nat) (Option.some Jvm.ClassFile.FieldType.int)) ∈ zT := zTm 1564 (by decide +kernel) rfl
theorem tw_1565 : (Jvm.Cond.methodLink "RegretLocksLaw" (190 : Nat) ({ cls := "RegretLocksModel", name := "tell", desc := "(I)I" } : Jvm.MethodName)) ∈ zT := zTm 1565 (by decide +kernel) rfl
theorem tw_1566 : (Jvm.Cond.instanceMethod ({ cls := "RegretLocksModel", name := "tell", desc := "(I)I" } : Jvm.MethodName)) ∈ zT := zTm 1566 (by decide +kernel) rfl
theorem tw_1567 : (Jvm.Cond.selects "RegretLocksModel" ({ cls := "RegretLocksModel", name := "tell", desc := "(I)I" } : Jvm.MethodName) ({ cls := "RegretLocksModel", name := "tell", desc := "(I)I" } : Jvm.MethodName)) ∈ zT := zTm 1567 (by decide +kernel) rfl
theorem tw_1568 : (Jvm.Cond.code ({ cls := "RegretLocksModel", name := "tell", desc := "(I)I" } : Jvm.MethodName) prog_12_method_102_code (2 : Nat) (Option.some Jvm.ClassFile.FieldType.int)) ∈ zT := zTm 1568 (by decide +kernel) rfl
theorem tw_1569 : (Jvm.Cond.methodLink "RegretLocksLaw" (194 : Nat) ({ cls := "RegretLocksModel", name := "check", desc := "(I)I" } : Jvm.MethodName)) ∈ zT := zTm 1569 (by decide +kernel) rfl
theorem tw_1570 : (Jvm.Cond.instanceMethod ({ cls := "RegretLocksModel", name := "check", desc := "(I)I" } : Jvm.MethodName)) ∈ zT := zTm 1570 (by decide +kernel) rfl
theorem tw_1571 : (Jvm.Cond.selects "RegretLocksModel" ({ cls := "RegretLocksModel", name := "check", desc := "(I)I" } : Jvm.MethodName) ({ cls := "RegretLocksModel", name := "check", desc := "(I)I" } : Jvm.MethodName)) ∈ zT := zTm 1571 (by decide +kernel) rfl
theorem tw_1572 : (Jvm.Cond.code ({ cls := "RegretLocksModel", name := "check", desc := "(I)I" } : Jvm.MethodName) prog_12_method_104_code (5 : Nat) (Option.some Jvm.ClassFile.FieldType.int)) ∈ zT := zTm 1572 (by decide +kernel) rfl
theorem tw_1573 : (Jvm.Cond.constantLong "RegretLocksModel" (331 : Nat) (30 : Int64)) ∈ zT := zTm 1573 (by decide +kernel) rfl
theorem tw_1574 : (Jvm.Cond.methodLink "RegretLocksModel" (337 : Nat) ({ cls := "RegretLocksModel", name := "setAside", desc := "([I[I)V" } : Jvm.MethodName)) ∈ zT := zTm 1574 (by decide +kernel) rfl
theorem tw_1576 : (Jvm.Cond.instanceMethod ({ cls := "RegretLocksModel", name := "setAside", desc := "([I[I)V" } : Jvm.MethodName)) ∈ zT := zTm 1576 (by decide +kernel) rfl
theorem tw_1577 : (Jvm.Cond.code ({ cls := "RegretLocksModel", name := "setAside", desc := "([I[I)V" } : Jvm.MethodName) prog_12_method_103_code (4 : Nat) (Option.none : Option Jvm.ClassFile.FieldType)) ∈ zT := zTm 1577 (by decide +kernel) rfl
theorem tw_1578 : (Jvm.Cond.methodLink "RegretLocksLaw" (198 : Nat) ({ cls := "RegretLocksModel", name := "keep", desc := "()I" } : Jvm.MethodName)) ∈ zT := zTm 1578 (by decide +kernel) rfl
theorem tw_1579 : (Jvm.Cond.instanceMethod ({ cls := "RegretLocksModel", name := "keep", desc := "()I" } : Jvm.MethodName)) ∈ zT := zTm 1579 (by decide +kernel) rfl
theorem tw_1580 : (Jvm.Cond.selects "RegretLocksModel" ({ cls := "RegretLocksModel", name := "keep", desc := "()I" } : Jvm.MethodName) ({ cls := "RegretLocksModel", name := "keep", desc := "()I" } : Jvm.MethodName)) ∈ zT := zTm 1580 (by decide +kernel) rfl
theorem tw_1581 : (Jvm.Cond.code ({ cls := "RegretLocksModel", name := "keep", desc := "()I" } : Jvm.MethodName) prog_12_method_105_code (1 : Nat) (Option.some Jvm.ClassFile.FieldType.int)) ∈ zT := zTm 1581 (by decide +kernel) rfl
theorem tw_1582 : (Jvm.Cond.methodLink "RegretLocksLaw" (202 : Nat) ({ cls := "RegretLocksModel", name := "back", desc := "()I" } : Jvm.MethodName)) ∈ zT := zTm 1582 (by decide +kernel) rfl
theorem tw_1583 : (Jvm.Cond.instanceMethod ({ cls := "RegretLocksModel", name := "back", desc := "()I" } : Jvm.MethodName)) ∈ zT := zTm 1583 (by decide +kernel) rfl
theorem tw_1584 : (Jvm.Cond.selects "RegretLocksModel" ({ cls := "RegretLocksModel", name := "back", desc := "()I" } : Jvm.MethodName) ({ cls := "RegretLocksModel", name := "back", desc := "()I" } : Jvm.MethodName)) ∈ zT := zTm 1584 (by decide +kernel) rfl
theorem tw_1585 : (Jvm.Cond.code ({ cls := "RegretLocksModel", name := "back", desc := "()I" } : Jvm.MethodName) prog_12_method_106_code (1 : Nat) (Option.some Jvm.ClassFile.FieldType.int)) ∈ zT := zTm 1585 (by decide +kernel) rfl
theorem tw_1586 : (Jvm.Cond.methodLink "RegretLocksLaw" (206 : Nat) ({ cls := "RegretLocksModel", name := "count", desc := "(I)I" } : Jvm.MethodName)) ∈ zT := zTm 1586 (by decide +kernel) rfl
theorem tw_1587 : (Jvm.Cond.instanceMethod ({ cls := "RegretLocksModel", name := "count", desc := "(I)I" } : Jvm.MethodName)) ∈ zT := zTm 1587 (by decide +kernel) rfl
theorem tw_1588 : (Jvm.Cond.selects "RegretLocksModel" ({ cls := "RegretLocksModel", name := "count", desc := "(I)I" } : Jvm.MethodName) ({ cls := "RegretLocksModel", name := "count", desc := "(I)I" } : Jvm.MethodName)) ∈ zT := zTm 1588 (by decide +kernel) rfl
theorem tw_1589 : (Jvm.Cond.code ({ cls := "RegretLocksModel", name := "count", desc := "(I)I" } : Jvm.MethodName) prog_12_method_107_code (2 : Nat) (Option.some Jvm.ClassFile.FieldType.int)) ∈ zT := zTm 1589 (by decide +kernel) rfl
